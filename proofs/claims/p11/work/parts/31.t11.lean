set_option maxRecDepth 100000 in
theorem dX0_init_0 : decode cX0_init 0 = .ok (.aload_n 0, 1) := by decide +kernel
set_option maxRecDepth 100000 in
theorem dX0_init_1 : decode cX0_init 1 = .ok (.invokespecial 1, 3) := by decide +kernel
set_option maxRecDepth 100000 in
theorem dX0_init_4 : decode cX0_init 4 = .ok (.aload_n 0, 1) := by decide +kernel
set_option maxRecDepth 100000 in
theorem dX0_init_5 : decode cX0_init 5 = .ok (.iload_n 1, 1) := by decide +kernel
set_option maxRecDepth 100000 in
theorem dX0_init_6 : decode cX0_init 6 = .ok (.putfield 7, 3) := by decide +kernel
set_option maxRecDepth 100000 in
theorem in_X0_init_X0 : ∀ w ∈ wsX00, w ∈ wsX0_init := fun _ h => List.mem_cons_of_mem _ (List.mem_append_right _ h)
set_option maxRecDepth 100000 in
theorem dX0_init_9 : decode cX0_init 9 = .ok (.aload_n 0, 1) := by decide +kernel
set_option maxRecDepth 100000 in
theorem dX0_init_10 : decode cX0_init 10 = .ok (.iload_n 2, 1) := by decide +kernel
set_option maxRecDepth 100000 in
theorem dX0_init_11 : decode cX0_init 11 = .ok (.putfield 13, 3) := by decide +kernel
set_option maxRecDepth 100000 in
theorem dX0_init_14 : decode cX0_init 14 = .ok (.aload_n 0, 1) := by decide +kernel
set_option maxRecDepth 100000 in
theorem dX0_init_15 : decode cX0_init 15 = .ok (.iload_n 3, 1) := by decide +kernel
set_option maxRecDepth 100000 in
theorem dX0_init_16 : decode cX0_init 16 = .ok (.putfield 16, 3) := by decide +kernel
set_option maxRecDepth 100000 in
theorem dX0_init_19 : decode cX0_init 19 = .ok (.aload_n 0, 1) := by decide +kernel
set_option maxRecDepth 100000 in
theorem dX0_init_20 : decode cX0_init 20 = .ok (.iload 4, 2) := by decide +kernel
set_option maxRecDepth 100000 in
theorem dX0_init_22 : decode cX0_init 22 = .ok (.putfield 19, 3) := by decide +kernel
set_option maxRecDepth 100000 in
theorem dX0_init_25 : decode cX0_init 25 = .ok (.aload_n 0, 1) := by decide +kernel
set_option maxRecDepth 100000 in
theorem dX0_init_26 : decode cX0_init 26 = .ok (.aload 5, 2) := by decide +kernel
set_option maxRecDepth 100000 in
theorem dX0_init_28 : decode cX0_init 28 = .ok (.putfield 22, 3) := by decide +kernel
set_option maxRecDepth 100000 in
theorem dX0_init_31 : decode cX0_init 31 = .ok (.return_, 1) := by decide +kernel
set_option maxRecDepth 100000 in
theorem dX1_init_0 : decode cX1_init 0 = .ok (.aload_n 0, 1) := by decide +kernel
set_option maxRecDepth 100000 in
theorem dX1_init_1 : decode cX1_init 1 = .ok (.invokespecial 3, 3) := by decide +kernel
set_option maxRecDepth 100000 in
theorem dX1_init_4 : decode cX1_init 4 = .ok (.aload_n 0, 1) := by decide +kernel
set_option maxRecDepth 100000 in
theorem dX1_init_5 : decode cX1_init 5 = .ok (.iconst 5, 1) := by decide +kernel
set_option maxRecDepth 100000 in
theorem dX1_init_6 : decode cX1_init 6 = .ok (.anewarray 9, 3) := by decide +kernel
set_option maxRecDepth 100000 in
theorem dX1_init_9 : decode cX1_init 9 = .ok (.putfield 11, 3) := by decide +kernel
set_option maxRecDepth 100000 in
theorem in_X1_init_X1 : ∀ w ∈ wsX10, w ∈ wsX1_init := fun _ h => List.mem_cons_of_mem _ (List.mem_append_right _ h)
set_option maxRecDepth 100000 in
theorem dX1_init_12 : decode cX1_init 12 = .ok (.aload_n 0, 1) := by decide +kernel
set_option maxRecDepth 100000 in
theorem dX1_init_13 : decode cX1_init 13 = .ok (.iconst 5, 1) := by decide +kernel
set_option maxRecDepth 100000 in
theorem dX1_init_14 : decode cX1_init 14 = .ok (.newarray .boolean, 2) := by decide +kernel
set_option maxRecDepth 100000 in
theorem dX1_init_16 : decode cX1_init 16 = .ok (.putfield 17, 3) := by decide +kernel
set_option maxRecDepth 100000 in
theorem dX1_init_19 : decode cX1_init 19 = .ok (.aload_n 0, 1) := by decide +kernel
set_option maxRecDepth 100000 in
theorem dX1_init_20 : decode cX1_init 20 = .ok (.aconst_null, 1) := by decide +kernel
set_option maxRecDepth 100000 in
theorem dX1_init_21 : decode cX1_init 21 = .ok (.putfield 21, 3) := by decide +kernel
set_option maxRecDepth 100000 in
theorem dX1_init_24 : decode cX1_init 24 = .ok (.aload_n 0, 1) := by decide +kernel
set_option maxRecDepth 100000 in
theorem dX1_init_25 : decode cX1_init 25 = .ok (.iload_n 1, 1) := by decide +kernel
set_option maxRecDepth 100000 in
theorem dX1_init_26 : decode cX1_init 26 = .ok (.putfield 25, 3) := by decide +kernel
set_option maxRecDepth 100000 in
theorem dX1_init_29 : decode cX1_init 29 = .ok (.aload_n 0, 1) := by decide +kernel
set_option maxRecDepth 100000 in
theorem dX1_init_30 : decode cX1_init 30 = .ok (.iload_n 2, 1) := by decide +kernel
set_option maxRecDepth 100000 in
theorem dX1_init_31 : decode cX1_init 31 = .ok (.putfield 29, 3) := by decide +kernel
set_option maxRecDepth 100000 in
theorem dX1_init_34 : decode cX1_init 34 = .ok (.return_, 1) := by decide +kernel
set_option maxRecDepth 100000 in
theorem dX2_init_0 : decode cX2_init 0 = .ok (.aload_n 0, 1) := by decide +kernel
set_option maxRecDepth 100000 in
theorem dX2_init_1 : decode cX2_init 1 = .ok (.invokespecial 1, 3) := by decide +kernel
set_option maxRecDepth 100000 in
theorem dX2_init_4 : decode cX2_init 4 = .ok (.aload_n 0, 1) := by decide +kernel
set_option maxRecDepth 100000 in
theorem dX2_init_5 : decode cX2_init 5 = .ok (.aload_n 1, 1) := by decide +kernel
set_option maxRecDepth 100000 in
theorem dX2_init_6 : decode cX2_init 6 = .ok (.putfield 7, 3) := by decide +kernel
set_option maxRecDepth 100000 in
theorem in_X2_init_X2 : ∀ w ∈ wsX20, w ∈ wsX2_init := fun _ h => List.mem_cons_of_mem _ (List.mem_append_right _ h)
set_option maxRecDepth 100000 in
theorem dX2_init_9 : decode cX2_init 9 = .ok (.aload_n 0, 1) := by decide +kernel
set_option maxRecDepth 100000 in
theorem dX2_init_10 : decode cX2_init 10 = .ok (.aload_n 2, 1) := by decide +kernel
set_option maxRecDepth 100000 in
theorem dX2_init_11 : decode cX2_init 11 = .ok (.putfield 13, 3) := by decide +kernel
set_option maxRecDepth 100000 in
theorem dX2_init_14 : decode cX2_init 14 = .ok (.aload_n 0, 1) := by decide +kernel
set_option maxRecDepth 100000 in
theorem dX2_init_15 : decode cX2_init 15 = .ok (.iload_n 3, 1) := by decide +kernel
set_option maxRecDepth 100000 in
theorem dX2_init_16 : decode cX2_init 16 = .ok (.putfield 16, 3) := by decide +kernel
set_option maxRecDepth 100000 in
theorem dX2_init_19 : decode cX2_init 19 = .ok (.aload_n 0, 1) := by decide +kernel
set_option maxRecDepth 100000 in
theorem dX2_init_20 : decode cX2_init 20 = .ok (.iload 4, 2) := by decide +kernel
set_option maxRecDepth 100000 in
theorem dX2_init_22 : decode cX2_init 22 = .ok (.putfield 20, 3) := by decide +kernel
set_option maxRecDepth 100000 in
theorem dX2_init_25 : decode cX2_init 25 = .ok (.return_, 1) := by decide +kernel
set_option maxRecDepth 100000 in
theorem dJ7_copyOf_59c91_0 : decode cJ7_copyOf_59c91 0 = .ok (.iload_n 1, 1) := by decide +kernel
set_option maxRecDepth 100000 in
theorem dJ7_copyOf_59c91_1 : decode cJ7_copyOf_59c91 1 = .ok (.aload_n 0, 1) := by decide +kernel
set_option maxRecDepth 100000 in
theorem dJ7_copyOf_59c91_2 : decode cJ7_copyOf_59c91 2 = .ok (.arraylength, 1) := by decide +kernel
set_option maxRecDepth 100000 in
theorem dJ7_copyOf_59c91_3 : decode cJ7_copyOf_59c91 3 = .ok (.if_icmp .ne 11, 3) := by decide +kernel
set_option maxRecDepth 100000 in
theorem dJ7_copyOf_59c91_14 : decode cJ7_copyOf_59c91 14 = .ok (.iload_n 1, 1) := by decide +kernel
set_option maxRecDepth 100000 in
theorem dJ7_copyOf_59c91_15 : decode cJ7_copyOf_59c91 15 = .ok (.newarray .int, 2) := by decide +kernel
set_option maxRecDepth 100000 in
theorem dJ7_copyOf_59c91_17 : decode cJ7_copyOf_59c91 17 = .ok (.astore_n 2, 1) := by decide +kernel
set_option maxRecDepth 100000 in
theorem dJ7_copyOf_59c91_18 : decode cJ7_copyOf_59c91 18 = .ok (.aload_n 0, 1) := by decide +kernel
set_option maxRecDepth 100000 in
theorem dJ7_copyOf_59c91_19 : decode cJ7_copyOf_59c91 19 = .ok (.iconst 0, 1) := by decide +kernel
set_option maxRecDepth 100000 in
theorem dJ7_copyOf_59c91_20 : decode cJ7_copyOf_59c91 20 = .ok (.aload_n 2, 1) := by decide +kernel
set_option maxRecDepth 100000 in
theorem dJ7_copyOf_59c91_21 : decode cJ7_copyOf_59c91 21 = .ok (.iconst 0, 1) := by decide +kernel
set_option maxRecDepth 100000 in
theorem dJ7_copyOf_59c91_22 : decode cJ7_copyOf_59c91 22 = .ok (.aload_n 0, 1) := by decide +kernel
set_option maxRecDepth 100000 in
theorem dJ7_copyOf_59c91_23 : decode cJ7_copyOf_59c91 23 = .ok (.arraylength, 1) := by decide +kernel
set_option maxRecDepth 100000 in
theorem dJ7_copyOf_59c91_24 : decode cJ7_copyOf_59c91 24 = .ok (.iload_n 1, 1) := by decide +kernel
set_option maxRecDepth 100000 in
theorem dJ7_copyOf_59c91_25 : decode cJ7_copyOf_59c91 25 = .ok (.invokestatic 304, 3) := by decide +kernel
set_option maxRecDepth 100000 in
theorem dJ7_copyOf_59c91_28 : decode cJ7_copyOf_59c91 28 = .ok (.invokestatic 150, 3) := by decide +kernel
set_option maxRecDepth 100000 in
theorem dJ7_copyOf_59c91_31 : decode cJ7_copyOf_59c91 31 = .ok (.aload_n 2, 1) := by decide +kernel
set_option maxRecDepth 100000 in
theorem dJ7_copyOf_59c91_32 : decode cJ7_copyOf_59c91 32 = .ok (.areturn, 1) := by decide +kernel
set_option maxRecDepth 100000 in
theorem dX2_followedBy_0 : decode cX2_followedBy 0 = .ok (.aload_n 0, 1) := by decide +kernel
set_option maxRecDepth 100000 in
theorem dX2_followedBy_1 : decode cX2_followedBy 1 = .ok (.invokevirtual 33, 3) := by decide +kernel
set_option maxRecDepth 20000 in
theorem ggX2_followedBy_X2_length : GoodIn wsX2_followedBy wsX2_length := goodIn_r _ [9, 1, 37, 38, 39, 40] (by decide +kernel) (by decide +kernel)
set_option maxRecDepth 20000 in
theorem gX2_followedBy_X2_length : GoodIn wsX2_followedBy (wsV RX2 33 RX2 yX2_length wsX2_length) := goodIn_app (goodIn_of _ (by decide +kernel)) ggX2_followedBy_X2_length
set_option maxRecDepth 100000 in
theorem dX2_followedBy_4 : decode cX2_followedBy 4 = .ok (.istore 5, 2) := by decide +kernel
set_option maxRecDepth 100000 in
theorem dX2_followedBy_6 : decode cX2_followedBy 6 = .ok (.aload_n 0, 1) := by decide +kernel
set_option maxRecDepth 100000 in
theorem dX2_followedBy_7 : decode cX2_followedBy 7 = .ok (.getfield 7, 3) := by decide +kernel
set_option maxRecDepth 100000 in
theorem in_X2_followedBy_X2 : ∀ w ∈ wsX20, w ∈ wsX2_followedBy := fun _ h => List.mem_cons_of_mem _ (List.mem_append_right _ h)
set_option maxRecDepth 100000 in
theorem dX2_followedBy_10 : decode cX2_followedBy 10 = .ok (.iload 5, 2) := by decide +kernel
set_option maxRecDepth 100000 in
theorem dX2_followedBy_12 : decode cX2_followedBy 12 = .ok (.iconst 1, 1) := by decide +kernel
set_option maxRecDepth 100000 in
theorem dX2_followedBy_13 : decode cX2_followedBy 13 = .ok (.iadd, 1) := by decide +kernel
set_option maxRecDepth 100000 in
theorem dX2_followedBy_14 : decode cX2_followedBy 14 = .ok (.invokestatic 37, 3) := by decide +kernel
set_option maxRecDepth 20000 in
theorem ggX2_followedBy_J7_copyOf_59c91 : GoodIn wsX2_followedBy wsJ7_copyOf_59c91 := goodIn_r _ [13, 14, 15, 16, 17, 18, 19, 20, 21, 22, 23, 24, 25, 26, 27, 28] (by decide +kernel) (by decide +kernel)
set_option maxRecDepth 20000 in
theorem gX2_followedBy_J7_copyOf_59c91 : GoodIn wsX2_followedBy (va_wsS RX2 37 yJ7_copyOf_59c91 wsJ7_copyOf_59c91) := goodIn_app (goodIn_of _ (by decide +kernel)) ggX2_followedBy_J7_copyOf_59c91
set_option maxRecDepth 100000 in
theorem dX2_followedBy_17 : decode cX2_followedBy 17 = .ok (.astore 6, 2) := by decide +kernel
set_option maxRecDepth 100000 in
theorem dX2_followedBy_19 : decode cX2_followedBy 19 = .ok (.aload_n 0, 1) := by decide +kernel
set_option maxRecDepth 100000 in
theorem dX2_followedBy_20 : decode cX2_followedBy 20 = .ok (.getfield 13, 3) := by decide +kernel
set_option maxRecDepth 100000 in
theorem dX2_followedBy_23 : decode cX2_followedBy 23 = .ok (.iload 5, 2) := by decide +kernel
set_option maxRecDepth 100000 in
theorem dX2_followedBy_25 : decode cX2_followedBy 25 = .ok (.iconst 1, 1) := by decide +kernel
set_option maxRecDepth 100000 in
theorem dX2_followedBy_26 : decode cX2_followedBy 26 = .ok (.iadd, 1) := by decide +kernel
set_option maxRecDepth 100000 in
theorem dX2_followedBy_27 : decode cX2_followedBy 27 = .ok (.invokestatic 37, 3) := by decide +kernel
set_option maxRecDepth 100000 in
theorem dX2_followedBy_30 : decode cX2_followedBy 30 = .ok (.astore 7, 2) := by decide +kernel
set_option maxRecDepth 100000 in
theorem dX2_followedBy_32 : decode cX2_followedBy 32 = .ok (.aload 6, 2) := by decide +kernel
set_option maxRecDepth 100000 in
theorem dX2_followedBy_34 : decode cX2_followedBy 34 = .ok (.iload 5, 2) := by decide +kernel
set_option maxRecDepth 100000 in
theorem dX2_followedBy_36 : decode cX2_followedBy 36 = .ok (.iload_n 1, 1) := by decide +kernel
set_option maxRecDepth 100000 in
theorem dX2_followedBy_37 : decode cX2_followedBy 37 = .ok (.iastore, 1) := by decide +kernel
set_option maxRecDepth 100000 in
theorem dX2_followedBy_38 : decode cX2_followedBy 38 = .ok (.aload 7, 2) := by decide +kernel
set_option maxRecDepth 100000 in
theorem dX2_followedBy_40 : decode cX2_followedBy 40 = .ok (.iload 5, 2) := by decide +kernel
set_option maxRecDepth 100000 in
theorem dX2_followedBy_42 : decode cX2_followedBy 42 = .ok (.iload_n 2, 1) := by decide +kernel
set_option maxRecDepth 100000 in
theorem dX2_followedBy_43 : decode cX2_followedBy 43 = .ok (.iastore, 1) := by decide +kernel
set_option maxRecDepth 100000 in
theorem dX2_followedBy_44 : decode cX2_followedBy 44 = .ok (.new 8, 3) := by decide +kernel
set_option maxRecDepth 100000 in
theorem dX2_followedBy_47 : decode cX2_followedBy 47 = .ok (.dup, 1) := by decide +kernel
set_option maxRecDepth 100000 in
theorem dX2_followedBy_48 : decode cX2_followedBy 48 = .ok (.aload 6, 2) := by decide +kernel
set_option maxRecDepth 100000 in
theorem dX2_followedBy_50 : decode cX2_followedBy 50 = .ok (.aload 7, 2) := by decide +kernel
set_option maxRecDepth 100000 in
theorem dX2_followedBy_52 : decode cX2_followedBy 52 = .ok (.iload_n 3, 1) := by decide +kernel
set_option maxRecDepth 100000 in
theorem dX2_followedBy_53 : decode cX2_followedBy 53 = .ok (.iload 4, 2) := by decide +kernel
set_option maxRecDepth 100000 in
theorem dX2_followedBy_55 : decode cX2_followedBy 55 = .ok (.invokespecial 43, 3) := by decide +kernel
set_option maxRecDepth 20000 in
theorem ggX2_followedBy_X2_init : GoodIn wsX2_followedBy wsX2_init := goodIn_r _ [31, 32, 33, 34, 1, 2, 35, 36, 37, 38, 39, 40] (by decide +kernel) (by decide +kernel)
set_option maxRecDepth 20000 in
theorem gX2_followedBy_X2_init : GoodIn wsX2_followedBy (wsX2_init) := ggX2_followedBy_X2_init
set_option maxRecDepth 100000 in
theorem dX2_followedBy_58 : decode cX2_followedBy 58 = .ok (.areturn, 1) := by decide +kernel
set_option maxRecDepth 100000 in
theorem dX1_prepareFrom_0 : decode cX1_prepareFrom 0 = .ok (.aload_n 0, 1) := by decide +kernel
set_option maxRecDepth 100000 in
theorem dX1_prepareFrom_1 : decode cX1_prepareFrom 1 = .ok (.aload_n 1, 1) := by decide +kernel
set_option maxRecDepth 100000 in
theorem dX1_prepareFrom_2 : decode cX1_prepareFrom 2 = .ok (.aload_n 0, 1) := by decide +kernel
set_option maxRecDepth 100000 in
theorem dX1_prepareFrom_3 : decode cX1_prepareFrom 3 = .ok (.getfield 29, 3) := by decide +kernel
set_option maxRecDepth 100000 in
theorem in_X1_prepareFrom_X1 : ∀ w ∈ wsX10, w ∈ wsX1_prepareFrom := fun _ h => List.mem_cons_of_mem _ (List.mem_append_left _ (List.mem_append_right _ h))
set_option maxRecDepth 100000 in
theorem dX1_prepareFrom_6 : decode cX1_prepareFrom 6 = .ok (.aload_n 0, 1) := by decide +kernel
set_option maxRecDepth 100000 in
theorem dX1_prepareFrom_7 : decode cX1_prepareFrom 7 = .ok (.getfield 25, 3) := by decide +kernel
set_option maxRecDepth 100000 in
theorem dX1_prepareFrom_10 : decode cX1_prepareFrom 10 = .ok (.aload_n 0, 1) := by decide +kernel
set_option maxRecDepth 100000 in
theorem dX1_prepareFrom_11 : decode cX1_prepareFrom 11 = .ok (.invokevirtual 43, 3) := by decide +kernel
set_option maxRecDepth 20000 in
theorem ggX1_prepareFrom_X1_groupSize : GoodIn wsX1_prepareFrom wsX1_groupSize := goodIn_r _ [9, 10, 11, 12, 8, 13, 14, 58, 59, 60, 61, 62] (by decide +kernel) (by decide +kernel)
set_option maxRecDepth 20000 in
theorem gX1_prepareFrom_X1_groupSize : GoodIn wsX1_prepareFrom (wsV RX1 43 RX1 yX1_groupSize wsX1_groupSize) := goodIn_app (goodIn_of _ (by decide +kernel)) ggX1_prepareFrom_X1_groupSize
set_option maxRecDepth 100000 in
theorem dX1_prepareFrom_14 : decode cX1_prepareFrom 14 = .ok (.aload_n 0, 1) := by decide +kernel
set_option maxRecDepth 100000 in
theorem dX1_prepareFrom_15 : decode cX1_prepareFrom 15 = .ok (.invokevirtual 47, 3) := by decide +kernel
set_option maxRecDepth 20000 in
theorem ggX1_prepareFrom_X1_leastOfGroup : GoodIn wsX1_prepareFrom wsX1_leastOfGroup := goodIn_r _ [18, 10, 11, 12, 8, 13, 14, 58, 59, 60, 61, 62] (by decide +kernel) (by decide +kernel)
set_option maxRecDepth 20000 in
theorem gX1_prepareFrom_X1_leastOfGroup : GoodIn wsX1_prepareFrom (wsV RX1 47 RX1 yX1_leastOfGroup wsX1_leastOfGroup) := goodIn_app (goodIn_of _ (by decide +kernel)) ggX1_prepareFrom_X1_leastOfGroup
set_option maxRecDepth 100000 in
theorem dX1_prepareFrom_18 : decode cX1_prepareFrom 18 = .ok (.invokevirtual 50, 3) := by decide +kernel
set_option maxRecDepth 20000 in
theorem ggX1_prepareFrom_X2_followedBy : GoodIn wsX1_prepareFrom wsX2_followedBy := goodIn_r _ [22, 23, 24, 25, 26, 20, 27, 28, 29, 30, 31, 32, 33, 34, 35, 36, 37, 38, 39, 40, 41, 42, 43, 44, 45, 46, 47, 48, 49, 50, 51, 52, 53, 54, 55, 56, 57, 63, 64, 65, 66] (by decide +kernel) (by decide +kernel)
set_option maxRecDepth 20000 in
theorem gX1_prepareFrom_X2_followedBy_n50 : GoodIn wsX1_prepareFrom (wsX2_followedBy) := ggX1_prepareFrom_X2_followedBy
set_option maxRecDepth 100000 in
theorem dX1_prepareFrom_21 : decode cX1_prepareFrom 21 = .ok (.putfield 21, 3) := by decide +kernel
set_option maxRecDepth 100000 in
theorem dX1_prepareFrom_24 : decode cX1_prepareFrom 24 = .ok (.aload_n 0, 1) := by decide +kernel
set_option maxRecDepth 100000 in
theorem dX1_prepareFrom_25 : decode cX1_prepareFrom 25 = .ok (.getfield 17, 3) := by decide +kernel
set_option maxRecDepth 100000 in
theorem dX1_prepareFrom_28 : decode cX1_prepareFrom 28 = .ok (.iload_n 2, 1) := by decide +kernel
set_option maxRecDepth 100000 in
theorem dX1_prepareFrom_29 : decode cX1_prepareFrom 29 = .ok (.iconst 1, 1) := by decide +kernel
set_option maxRecDepth 100000 in
theorem dX1_prepareFrom_30 : decode cX1_prepareFrom 30 = .ok (.bastore, 1) := by decide +kernel
set_option maxRecDepth 100000 in
theorem dX1_prepareFrom_31 : decode cX1_prepareFrom 31 = .ok (.return_, 1) := by decide +kernel
set_option maxHeartbeats 4000000 in
set_option maxRecDepth 100000 in
theorem c_X0_init (l : Launch) (hlt : l.stackTraces = false) (D : va_G) (tC : Nat → ClassId) (dz sz : Nat) (pl : va_W) (t : Nat → Nat × Nat) (ad : Nat → Nat) (ed : Nat) (cb up : Nat → Int32) (rs cp : Nat) (hO : Ok tC dz t ad ed cb up rs cp pl) (a : Nat) (ka : Nat) (kd : Int32) (fr : Nat) (to : Nat) (nu : Int32) (o : Option Nat) (za : (t a).1 = 0) (hka : pl[ka]? = some (a, .inr (1, [.int 0, .int 0, .int 0, .int 0, .null]))) (hfr : fr < 5) (hto : to < 5) (ho : isK t 1 o) : Met l yX0_init wsX0_init ({ frames := 1, cells := 0, slots := 0, locals := 12 }) (va_Pc [.ref a, .int kd, .int (nI fr), .int (nI to), .int nu, va_rf o] (pB D tC dz pl sz)) (va_Qv (fun (_ : Unit) => True) (fun (_ : Unit) t9 => ∃ (t2 : Nat → Nat × Nat) (ed2 rs2 cp2 : Nat) (pl2 : va_W), tLe t t2 ∧ rs2 ≤ rs + 0 ∧ ((t2 a).1 = 3) ∧ Ok tC dz t2 ad ed2 cb up rs2 cp2 pl2 ∧ pA D tC (va_A pl sz) pl2 t9) (va_A pl sz)) 0 0 (va_A pl sz) := by
  refine Met.ofW (cc := cX0_init) (maxL := 6) (ret := none) (by decide) rfl ?_
  intro p e s m args below meth c s₁ B hml hv
  obtain ⟨rfl, hsz, hP, hK, hD0, hN, hE⟩ := hv
  have hx := B.exec
  have hb := B.bytes
  have hr := B.returns
  have hts := atoms_spec (ws := wsX0_init) B.pre
  have hown : s.vm.findClass RX0 = some m.cls := findClass_of_methodNamed B.named
  have hlocks := B.notSynchronized
  have hin : meth.name = "<init>" := (name_of_methodNamed B.named B.method).1
  subst hsz
  have hD := hD0.self (sz := s.heap.size)
  have hAm : ∀ q : Nat, xN s.heap.size q → va_A pl s.heap.size q := xN_A
  have hN0 : ∀ q : Nat, s.heap.size ≤ q → xN s.heap.size q := fun _ h => h
  have hE0 := eH_narrow hE hAm
  generalize va_A pl s.heap.size = A at hD hE hAm
  have hA : ∀ q : Nat, s.heap.size ≤ q → A q := fun q h => hAm q h
  have hS : va_S (xN s.heap.size) s.heap s.heap [] := va_S.rf
  obtain ⟨rs0, hrs0⟩ : ∃ z9, z9 = rs := ⟨_, rfl⟩
  obtain ⟨up0, hup0⟩ : ∃ z9, z9 = up := ⟨_, rfl⟩
  obtain ⟨cb0, hcb0⟩ : ∃ z9, z9 = cb := ⟨_, rfl⟩
  have hLe : tLe t t := tLe.rf
  have hRs : rs ≤ rs0 + 0 := by omega
  have hl := lv_entry ([.ref a, .int kd, .int (nI fr), .int (nI to), .int nu, va_rf o]) (n := 6) (by cases o <;> exact Nat.le_of_ble_eq_true rfl)
  rw [lg_entry_eq]
  generalize (lg_sl ([.ref a, .int kd, .int (nI fr), .int (nI to), .int nu, va_rf o]) ++ List.replicate (6 - (lg_sl ([.ref a, .int kd, .int (nI fr), .int (nI to), .int nu, va_rf o])).length) Slot.unset).toArray = ls at hl ⊢
  have hl : lv_has ls 6 [(0, .ref a), (1, .int kd), (2, .int (nI fr)), (3, .int (nI to)), (4, .int nu), (5, va_rf o)] := hl
  have w_0 := hts (.methodLink RX0 1 objectInit) (by decide +kernel)
  have w_1 := hts (.instanceMethod objectInit) (by decide +kernel)
  have w_2 := hts (.code objectInit ⟨#[0xb1]⟩ 1 none) (by decide +kernel)
  have w_3 := hts (.fieldLink RX0 7 "NoticeStations$Letter" "kind" "I") (by decide +kernel)
  have w_4 := hts (.fieldLink RX0 13 "NoticeStations$Letter" "from" "I") (by decide +kernel)
  have w_5 := hts (.fieldLink RX0 16 "NoticeStations$Letter" "to" "I") (by decide +kernel)
  have w_6 := hts (.fieldLink RX0 19 "NoticeStations$Letter" "number" "I") (by decide +kernel)
  have w_7 := hts (.fieldLink RX0 22 "NoticeStations$Letter" "standing" "LNoticeStations$Standing;") (by decide +kernel)
  refine lv_aload_n hx hb dX0_init_0 rfl (lv_at hl 0 rfl) ?_
  refine W.objInit hx hb hown w_0 w_1 w_2 rfl (by rw [hml]; exact hl.1) rfl dX0_init_1 (Nat.le_of_ble_eq_true rfl) (Nat.le_of_ble_eq_true rfl) ?_
  refine W.eq (g2 := F0 m 4 ls []) rfl ?_
  refine lv_aload_n hx hb dX0_init_4 rfl (lv_at hl 0 rfl) ?_
  refine lv_iload_n hx hb dX0_init_5 rfl (lv_at hl 1 rfl) ?_
  have hS := hS.mono hAm
  refine va_putF (D := D) (ci := 1) (v := .int kd) (ty := .int) (C := RX0) (T := TX0) (N := 5) hx hb hts in_X0_init_X0 tyX0 tyX0_ok nmX0 hown hK hP hD hS ka hka rfl 0 (by decide) w_3 (fun _ h9 => h9) rfl hin rfl (by decide +kernel) (by first | rfl | decide) (by first | rfl | decide) (Nat.le_of_ble_eq_true rfl) dX0_init_6 (fun H locs hP hD hS => ?_)
  have hO := hO.put0 (c1 := .inr (1, [.int kd, .int 0, .int 0, .int 0, .null])) hka za
  obtain ⟨pl, hpl9⟩ : ∃ z9, z9 = pl.set ka (a, .inr (1, [.int kd, .int 0, .int 0, .int 0, .null])) := ⟨_, rfl⟩
  have hk_1 := setP hka hpl9
  have hP : va_P D vwCl pl H := by rw [hpl9]; exact hP
  have hD : va_D A pl := by rw [hpl9]; exact hD
  have hO : Ok tC dz t ad ed cb up rs cp pl := by rw [hpl9]; exact hO
  refine lv_aload_n hx hb dX0_init_9 rfl (lv_at hl 0 rfl) ?_
  refine lv_iload_n hx hb dX0_init_10 rfl (lv_at hl 2 rfl) ?_
  refine va_putF (D := D) (ci := 1) (v := .int (nI fr)) (ty := .int) (C := RX0) (T := TX0) (N := 5) hx hb hts in_X0_init_X0 tyX0 tyX0_ok nmX0 hown hK hP hD hS ka hk_1 rfl 1 (by decide) w_4 (fun _ h9 => h9) rfl hin rfl (by decide +kernel) (by first | rfl | decide) (by first | rfl | decide) (Nat.le_of_ble_eq_true rfl) dX0_init_11 (fun H locs hP hD hS => ?_)
  have hO := hO.put0 (c1 := .inr (1, [.int kd, .int (nI fr), .int 0, .int 0, .null])) hk_1 za
  obtain ⟨pl, hpl9⟩ : ∃ z9, z9 = pl.set ka (a, .inr (1, [.int kd, .int (nI fr), .int 0, .int 0, .null])) := ⟨_, rfl⟩
  have hk_2 := setP hk_1 hpl9
  have hP : va_P D vwCl pl H := by rw [hpl9]; exact hP
  have hD : va_D A pl := by rw [hpl9]; exact hD
  have hO : Ok tC dz t ad ed cb up rs cp pl := by rw [hpl9]; exact hO
  refine lv_aload_n hx hb dX0_init_14 rfl (lv_at hl 0 rfl) ?_
  refine lv_iload_n hx hb dX0_init_15 rfl (lv_at hl 3 rfl) ?_
  refine va_putF (D := D) (ci := 1) (v := .int (nI to)) (ty := .int) (C := RX0) (T := TX0) (N := 5) hx hb hts in_X0_init_X0 tyX0 tyX0_ok nmX0 hown hK hP hD hS ka hk_2 rfl 2 (by decide) w_5 (fun _ h9 => h9) rfl hin rfl (by decide +kernel) (by first | rfl | decide) (by first | rfl | decide) (Nat.le_of_ble_eq_true rfl) dX0_init_16 (fun H locs hP hD hS => ?_)
  have hO := hO.put0 (c1 := .inr (1, [.int kd, .int (nI fr), .int (nI to), .int 0, .null])) hk_2 za
  obtain ⟨pl, hpl9⟩ : ∃ z9, z9 = pl.set ka (a, .inr (1, [.int kd, .int (nI fr), .int (nI to), .int 0, .null])) := ⟨_, rfl⟩
  have hk_3 := setP hk_2 hpl9
  have hP : va_P D vwCl pl H := by rw [hpl9]; exact hP
  have hD : va_D A pl := by rw [hpl9]; exact hD
  have hO : Ok tC dz t ad ed cb up rs cp pl := by rw [hpl9]; exact hO
  refine lv_aload_n hx hb dX0_init_19 rfl (lv_at hl 0 rfl) ?_
  refine lv_iload hx hb dX0_init_20 (lv_at hl 4 rfl) ?_
  refine va_putF (D := D) (ci := 1) (v := .int nu) (ty := .int) (C := RX0) (T := TX0) (N := 5) hx hb hts in_X0_init_X0 tyX0 tyX0_ok nmX0 hown hK hP hD hS ka hk_3 rfl 3 (by decide) w_6 (fun _ h9 => h9) rfl hin rfl (by decide +kernel) (by first | rfl | decide) (by first | rfl | decide) (Nat.le_of_ble_eq_true rfl) dX0_init_22 (fun H locs hP hD hS => ?_)
  have hO := hO.put0 (c1 := .inr (1, [.int kd, .int (nI fr), .int (nI to), .int nu, .null])) hk_3 za
  obtain ⟨pl, hpl9⟩ : ∃ z9, z9 = pl.set ka (a, .inr (1, [.int kd, .int (nI fr), .int (nI to), .int nu, .null])) := ⟨_, rfl⟩
  have hk_4 := setP hk_3 hpl9
  have hP : va_P D vwCl pl H := by rw [hpl9]; exact hP
  have hD : va_D A pl := by rw [hpl9]; exact hD
  have hO : Ok tC dz t ad ed cb up rs cp pl := by rw [hpl9]; exact hO
  refine lv_aload_n hx hb dX0_init_25 rfl (lv_at hl 0 rfl) ?_
  refine lv_aloadQ hx hb dX0_init_26 (lv_at hl 5 rfl) ?_
  refine va_putF (D := D) (ci := 1) (v := va_rf o) (ty := .object "NoticeStations$Standing") (C := RX0) (T := TX0) (N := 5) hx hb hts in_X0_init_X0 tyX0 tyX0_ok nmX0 hown hK hP hD hS ka hk_4 rfl 4 (by decide) w_7 (fun _ h9 => h9) rfl hin rfl (by decide +kernel) (by cases o <;> rfl) (by cases o <;> rfl) (Nat.le_of_ble_eq_true rfl) dX0_init_28 (fun H locs hP hD hS => ?_)
  have hO := hO.put0 (c1 := .inr (1, [.int kd, .int (nI fr), .int (nI to), .int nu, va_rf o])) hk_4 za
  obtain ⟨pl, hpl9⟩ : ∃ z9, z9 = pl.set ka (a, .inr (1, [.int kd, .int (nI fr), .int (nI to), .int nu, va_rf o])) := ⟨_, rfl⟩
  have hk_5 := setP hk_4 hpl9
  have hP : va_P D vwCl pl H := by rw [hpl9]; exact hP
  have hD : va_D A pl := by rw [hpl9]; exact hD
  have hO : Ok tC dz t ad ed cb up rs cp pl := by rw [hpl9]; exact hO
  have hle9 := tUp_le (k := 3) (n := 0) za
  have hO := hO.ty (k := 3) (n := 0) hk_5 za (by decide) (cS.m3 hfr hto (isK.mono (tUp_le za) (by decide) ho))
  have hn9 : tUp t a 3 0 a = (3, 0) := tUp_at _ _ _ _
  obtain ⟨t, ht8⟩ : ∃ z9, z9 = tUp t a 3 0 := ⟨_, rfl⟩
  rw [← ht8] at hO hle9 hn9
  have h_6 := hn9
  have hLe := hLe.trans hle9
  have h_7 := isK.mono hle9 (by decide) ho
  refine W.widen (k := 0) (n := 0) (by omega) (by omega) ?_
  exact W.vret hx hb hr (fun t9 ht hW => ⟨⟨(), rfl, trivial, ⟨t, ed, rs, cp, pl, hLe, by omega, (tk1 h_6), hO, (by rw [ht]; exact hP), va_K.moved hW.alike hK, hD⟩⟩, hS.F ht⟩) hS.2.2 dX0_init_31 hlocks
set_option maxHeartbeats 4000000 in
set_option maxRecDepth 100000 in
theorem c_X1_init (l : Launch) (hlt : l.stackTraces = false) (D : va_G) (tC : Nat → ClassId) (dz sz : Nat) (pl : va_W) (t : Nat → Nat × Nat) (ad : Nat → Nat) (ed : Nat) (cb up : Nat → Int32) (rs cp : Nat) (hO : Ok tC dz t ad ed cb up rs cp pl) (a : Nat) (ka : Nat) (nu : Int32) (en : Int32) (za : (t a).1 = 0) (hka : pl[ka]? = some (a, .inr (2, [.int 0, .int 0, .null, .null, .null]))) : Met l yX1_init wsX1_init ({ frames := 1, cells := 2, slots := 10, locals := 12 }) (va_Pc [.ref a, .int nu, .int en] (pB D tC dz pl sz)) (va_Qv (fun (_ : Unit) => True) (fun (_ : Unit) t9 => ∃ (t2 : Nat → Nat × Nat) (ed2 rs2 cp2 : Nat) (pl2 : va_W), tLe t t2 ∧ rs2 ≤ rs + 0 ∧ ((t2 a).1 = 4) ∧ Ok tC dz t2 ad ed2 cb up rs2 cp2 pl2 ∧ pA D tC (va_A pl sz) pl2 t9) (va_A pl sz)) 2 10 (va_A pl sz) := by
  refine Met.ofW (cc := cX1_init) (maxL := 3) (ret := none) (by decide) rfl ?_
  intro p e s m args below meth c s₁ B hml hv
  obtain ⟨rfl, hsz, hP, hK, hD0, hN, hE⟩ := hv
  have hx := B.exec
  have hb := B.bytes
  have hr := B.returns
  have hts := atoms_spec (ws := wsX1_init) B.pre
  have hown : s.vm.findClass RX1 = some m.cls := findClass_of_methodNamed B.named
  have hlocks := B.notSynchronized
  have hin : meth.name = "<init>" := (name_of_methodNamed B.named B.method).1
  subst hsz
  have hD := hD0.self (sz := s.heap.size)
  have hAm : ∀ q : Nat, xN s.heap.size q → va_A pl s.heap.size q := xN_A
  have hN0 : ∀ q : Nat, s.heap.size ≤ q → xN s.heap.size q := fun _ h => h
  have hE0 := eH_narrow hE hAm
  generalize va_A pl s.heap.size = A at hD hE hAm
  have hA : ∀ q : Nat, s.heap.size ≤ q → A q := fun q h => hAm q h
  have hS : va_S (xN s.heap.size) s.heap s.heap [] := va_S.rf
  obtain ⟨rs0, hrs0⟩ : ∃ z9, z9 = rs := ⟨_, rfl⟩
  obtain ⟨up0, hup0⟩ : ∃ z9, z9 = up := ⟨_, rfl⟩
  obtain ⟨cb0, hcb0⟩ : ∃ z9, z9 = cb := ⟨_, rfl⟩
  have hLe : tLe t t := tLe.rf
  have hRs : rs ≤ rs0 + 0 := by omega
  have hl := lv_entry ([.ref a, .int nu, .int en]) (n := 3) (Nat.le_of_ble_eq_true rfl)
  rw [lg_entry_eq]
  generalize (lg_sl ([.ref a, .int nu, .int en]) ++ List.replicate (3 - (lg_sl ([.ref a, .int nu, .int en])).length) Slot.unset).toArray = ls at hl ⊢
  have hl : lv_has ls 3 [(0, .ref a), (1, .int nu), (2, .int en)] := hl
  have w_0 := hts (.methodLink RX1 3 objectInit) (by decide +kernel)
  have w_1 := hts (.instanceMethod objectInit) (by decide +kernel)
  have w_2 := hts (.code objectInit ⟨#[0xb1]⟩ 1 none) (by decide +kernel)
  have w_3 := hts (.classLink RX1 9 RX2) (by decide +kernel)
  have w_4 := hts (.fieldLink RX1 11 "NoticeStations$OpenWrite" "granted" "[LNoticeStations$Standing;") (by decide +kernel)
  have w_5 := hts (.arrayClass .boolean) (by decide +kernel)
  have w_6 := hts (.fieldLink RX1 17 "NoticeStations$OpenWrite" "prepared" "[Z") (by decide +kernel)
  have w_7 := hts (.fieldLink RX1 21 "NoticeStations$OpenWrite" "next" "LNoticeStations$Standing;") (by decide +kernel)
  have w_8 := hts (.fieldLink RX1 25 "NoticeStations$OpenWrite" "number" "I") (by decide +kernel)
  have w_9 := hts (.fieldLink RX1 29 "NoticeStations$OpenWrite" "entry" "I") (by decide +kernel)
  refine lv_aload_n hx hb dX1_init_0 rfl (lv_at hl 0 rfl) ?_
  refine W.objInit hx hb hown w_0 w_1 w_2 rfl (by rw [hml]; exact hl.1) rfl dX1_init_1 (Nat.le_of_ble_eq_true rfl) (Nat.le_of_ble_eq_true rfl) ?_
  refine W.eq (g2 := F0 m 4 ls []) rfl ?_
  refine lv_aload_n hx hb dX1_init_4 rfl (lv_at hl 0 rfl) ?_
  refine lv_iconst (v := 5) hx hb dX1_init_5 (by decide) ?_
  have hS := hS.mono hAm
  refine x_newq (N' := 5) (C := "NoticeStations$Standing") hx hb hown w_3 (hN.2.2.2.1 "NoticeStations$Standing" (by decide +kernel)) hK hP hD hS hA (i := 2) rfl (by decide) (by decide) (by decide) (Nat.le_of_ble_eq_true rfl) (Nat.le_of_ble_eq_true rfl) dX1_init_6 (fun q_1 H hP hD hS => ?_)
  have zq_1 : (t q_1).1 = 0 := hO.new0 hD
  have hO := hO.more [(q_1, wS tC 5 (fun _ => none))]
  obtain ⟨pl, hpl9⟩ : ∃ z9, z9 = pl ++ [(q_1, wS tC 5 (fun _ => none))] := ⟨_, rfl⟩
  obtain ⟨kq_1, hkq_1⟩ := newP hpl9
  have hk_2 := keepA hka hpl9
  have hP : va_P D vwCl pl H := by rw [hpl9]; exact hP
  have hD : va_D A pl := by rw [hpl9]; exact hD
  have hO : Ok tC dz t ad ed cb up rs cp pl := by rw [hpl9]; exact hO
  refine W.widen (k := 1) (n := 5) (by omega) (by omega) ?_
  have hle9 := tUp_le (k := 5) (n := 0) zq_1
  have hO := hO.ty (k := 5) (n := 0) hkq_1 zq_1 (by decide) (cS.m5 (fun _ _ => isK.no))
  have hn9 : tUp t q_1 5 0 q_1 = (5, 0) := tUp_at _ _ _ _
  have z_3 : (tUp t q_1 5 0 a).1 = 0 := by rw [tUp_ne (neP hD hk_2 hkq_1)]; exact za
  obtain ⟨t, ht8⟩ : ∃ z9, z9 = tUp t q_1 5 0 := ⟨_, rfl⟩
  rw [← ht8] at hO hle9 hn9 z_3
  have h_4 := hn9
  have hLe := hLe.trans hle9
  refine va_putF (D := D) (ci := 2) (v := .ref q_1) (ty := .array (.object "NoticeStations$Standing")) (C := RX1) (T := TX1) (N := 5) hx hb hts in_X1_init_X1 tyX1 tyX1_ok nmX1 hown hK hP hD hS ka hk_2 rfl 2 (by decide) w_4 (fun _ h9 => h9) rfl hin rfl (by decide +kernel) (by first | rfl | decide) (by first | rfl | decide) (Nat.le_of_ble_eq_true rfl) dX1_init_9 (fun H locs hP hD hS => ?_)
  have hO := hO.put0 (c1 := .inr (2, [.int 0, .int 0, .ref q_1, .null, .null])) hk_2 z_3
  obtain ⟨pl, hpl9⟩ : ∃ z9, z9 = pl.set ka (a, .inr (2, [.int 0, .int 0, .ref q_1, .null, .null])) := ⟨_, rfl⟩
  have hk_5 := setP hk_2 hpl9
  have hP : va_P D vwCl pl H := by rw [hpl9]; exact hP
  have hD : va_D A pl := by rw [hpl9]; exact hD
  have hO : Ok tC dz t ad ed cb up rs cp pl := by rw [hpl9]; exact hO
  refine lv_aload_n hx hb dX1_init_12 rfl (lv_at hl 0 rfl) ?_
  refine lv_iconst (v := 5) hx hb dX1_init_13 (by decide) ?_
  refine x_newa (N' := 5) (ty := .boolean) (a0 := (5, .inl (fun _ => 0))) hx hb w_5 rfl hK hP hD hS hA (i := 1) rfl (fun cA => x_newZ cA _) (by decide) (by decide) (by decide) (Nat.le_of_ble_eq_true rfl) (Nat.le_of_ble_eq_true rfl) dX1_init_14 (fun q_6 H hP hD hS => ?_)
  have zq_6 : (t q_6).1 = 0 := hO.new0 hD
  have hO := hO.more [(q_6, wZ tC 5 (fun _ => 0))]
  obtain ⟨pl, hpl9⟩ : ∃ z9, z9 = pl ++ [(q_6, wZ tC 5 (fun _ => 0))] := ⟨_, rfl⟩
  obtain ⟨kq_6, hkq_6⟩ := newP hpl9
  have hk_7 := keepA hk_5 hpl9
  have hP : va_P D vwCl pl H := by rw [hpl9]; exact hP
  have hD : va_D A pl := by rw [hpl9]; exact hD
  have hO : Ok tC dz t ad ed cb up rs cp pl := by rw [hpl9]; exact hO
  refine W.widen (k := 2) (n := 10) (by omega) (by omega) ?_
  have hle9 := tUp_le (k := 6) (n := 0) zq_6
  have hO := hO.ty (k := 6) (n := 0) hkq_6 zq_6 (by decide) (cS.m6)
  have hn9 : tUp t q_6 6 0 q_6 = (6, 0) := tUp_at _ _ _ _
  have z_8 : (tUp t q_6 6 0 a).1 = 0 := by rw [tUp_ne (neP hD hk_7 hkq_6)]; exact z_3
  obtain ⟨t, ht8⟩ : ∃ z9, z9 = tUp t q_6 6 0 := ⟨_, rfl⟩
  rw [← ht8] at hO hle9 hn9 z_8
  have h_9 := hn9
  have hLe := hLe.trans hle9
  have h_10 := hle9.k (tk1 h_4) (by decide)
  refine va_putF (D := D) (ci := 2) (v := .ref q_6) (ty := .array .boolean) (C := RX1) (T := TX1) (N := 5) hx hb hts in_X1_init_X1 tyX1 tyX1_ok nmX1 hown hK hP hD hS ka hk_7 rfl 3 (by decide) w_6 (fun _ h9 => h9) rfl hin rfl (by decide +kernel) (by first | rfl | decide) (by first | rfl | decide) (Nat.le_of_ble_eq_true rfl) dX1_init_16 (fun H locs hP hD hS => ?_)
  have hO := hO.put0 (c1 := .inr (2, [.int 0, .int 0, .ref q_1, .ref q_6, .null])) hk_7 z_8
  obtain ⟨pl, hpl9⟩ : ∃ z9, z9 = pl.set ka (a, .inr (2, [.int 0, .int 0, .ref q_1, .ref q_6, .null])) := ⟨_, rfl⟩
  have hk_11 := setP hk_7 hpl9
  have hP : va_P D vwCl pl H := by rw [hpl9]; exact hP
  have hD : va_D A pl := by rw [hpl9]; exact hD
  have hO : Ok tC dz t ad ed cb up rs cp pl := by rw [hpl9]; exact hO
  refine lv_aload_n hx hb dX1_init_19 rfl (lv_at hl 0 rfl) ?_
  refine lv_null hx hb dX1_init_20 ?_
  refine va_put (D := D) (ci := 2) (v := .null) (ty := .object "NoticeStations$Standing") (C := RX1) (T := TX1) (N := 5) hx hb hts in_X1_init_X1 tyX1 tyX1_ok nmX1 hown hK hP hD hS ka hk_11 rfl 4 (by decide) w_7 (fun _ h9 => h9) rfl (by decide +kernel) (by first | rfl | decide) (by first | rfl | decide) (Nat.le_of_ble_eq_true rfl) dX1_init_21 (fun H locs hP hD hS => ?_)
  have hO := hO.put0 (c1 := .inr (2, [.int 0, .int 0, .ref q_1, .ref q_6, .null])) hk_11 z_8
  obtain ⟨pl, hpl9⟩ : ∃ z9, z9 = pl.set ka (a, .inr (2, [.int 0, .int 0, .ref q_1, .ref q_6, .null])) := ⟨_, rfl⟩
  have hk_12 := setP hk_11 hpl9
  have hP : va_P D vwCl pl H := by rw [hpl9]; exact hP
  have hD : va_D A pl := by rw [hpl9]; exact hD
  have hO : Ok tC dz t ad ed cb up rs cp pl := by rw [hpl9]; exact hO
  refine lv_aload_n hx hb dX1_init_24 rfl (lv_at hl 0 rfl) ?_
  refine lv_iload_n hx hb dX1_init_25 rfl (lv_at hl 1 rfl) ?_
  refine va_putF (D := D) (ci := 2) (v := .int nu) (ty := .int) (C := RX1) (T := TX1) (N := 5) hx hb hts in_X1_init_X1 tyX1 tyX1_ok nmX1 hown hK hP hD hS ka hk_12 rfl 0 (by decide) w_8 (fun _ h9 => h9) rfl hin rfl (by decide +kernel) (by first | rfl | decide) (by first | rfl | decide) (Nat.le_of_ble_eq_true rfl) dX1_init_26 (fun H locs hP hD hS => ?_)
  have hO := hO.put0 (c1 := .inr (2, [.int nu, .int 0, .ref q_1, .ref q_6, .null])) hk_12 z_8
  obtain ⟨pl, hpl9⟩ : ∃ z9, z9 = pl.set ka (a, .inr (2, [.int nu, .int 0, .ref q_1, .ref q_6, .null])) := ⟨_, rfl⟩
  have hk_13 := setP hk_12 hpl9
  have hP : va_P D vwCl pl H := by rw [hpl9]; exact hP
  have hD : va_D A pl := by rw [hpl9]; exact hD
  have hO : Ok tC dz t ad ed cb up rs cp pl := by rw [hpl9]; exact hO
  refine lv_aload_n hx hb dX1_init_29 rfl (lv_at hl 0 rfl) ?_
  refine lv_iload_n hx hb dX1_init_30 rfl (lv_at hl 2 rfl) ?_
  refine va_putF (D := D) (ci := 2) (v := .int en) (ty := .int) (C := RX1) (T := TX1) (N := 5) hx hb hts in_X1_init_X1 tyX1 tyX1_ok nmX1 hown hK hP hD hS ka hk_13 rfl 1 (by decide) w_9 (fun _ h9 => h9) rfl hin rfl (by decide +kernel) (by first | rfl | decide) (by first | rfl | decide) (Nat.le_of_ble_eq_true rfl) dX1_init_31 (fun H locs hP hD hS => ?_)
  have hO := hO.put0 (c1 := .inr (2, [.int nu, .int en, .ref q_1, .ref q_6, .null])) hk_13 z_8
  obtain ⟨pl, hpl9⟩ : ∃ z9, z9 = pl.set ka (a, .inr (2, [.int nu, .int en, .ref q_1, .ref q_6, .null])) := ⟨_, rfl⟩
  have hk_14 := setP hk_13 hpl9
  have hP : va_P D vwCl pl H := by rw [hpl9]; exact hP
  have hD : va_D A pl := by rw [hpl9]; exact hD
  have hO : Ok tC dz t ad ed cb up rs cp pl := by rw [hpl9]; exact hO
  have hle9 := tUp_le (k := 4) (n := 0) z_8
  have hO := hO.ty (k := 4) (n := 0) hk_14 z_8 (by decide) (cS.m4 ((tUp_le z_8).k h_10 (by decide)) ((tUp_le z_8).k (tk1 h_9) (by decide)) isK.no)
  have hn9 : tUp t a 4 0 a = (4, 0) := tUp_at _ _ _ _
  obtain ⟨t, ht8⟩ : ∃ z9, z9 = tUp t a 4 0 := ⟨_, rfl⟩
  rw [← ht8] at hO hle9 hn9
  have h_15 := hn9
  have hLe := hLe.trans hle9
  have h_16 := hle9.k h_10 (by decide)
  refine W.widen (k := 2) (n := 10) (by omega) (by omega) ?_
  exact W.vret hx hb hr (fun t9 ht hW => ⟨⟨(), rfl, trivial, ⟨t, ed, rs, cp, pl, hLe, by omega, (tk1 h_15), hO, (by rw [ht]; exact hP), va_K.moved hW.alike hK, hD⟩⟩, hS.F ht⟩) hS.2.2 dX1_init_34 hlocks
set_option maxHeartbeats 4000000 in
set_option maxRecDepth 100000 in
theorem c_X2_init (l : Launch) (hlt : l.stackTraces = false) (D : va_G) (tC : Nat → ClassId) (dz sz : Nat) (pl : va_W) (t : Nat → Nat × Nat) (ad : Nat → Nat) (ed : Nat) (cb up : Nat → Int32) (rs cp : Nat) (hO : Ok tC dz t ad ed cb up rs cp pl) (a : Nat) (ka : Nat) (f : Nat) (n : Nat) (g : Nat) (n : Nat) (z : Int32) (d : Int32) (za : (t a).1 = 0) (hka : pl[ka]? = some (a, .inr (3, [.null, .null, .int 0, .int 0]))) (hf : t f = (2, n)) (hg : t g = (2, n)) (hn : n ≤ 16) : Met l yX2_init wsX2_init ({ frames := 1, cells := 0, slots := 0, locals := 12 }) (va_Pc [.ref a, .ref f, .ref g, .int z, .int d] (pB D tC dz pl sz)) (va_Qv (fun (_ : Unit) => True) (fun (_ : Unit) t9 => ∃ (t2 : Nat → Nat × Nat) (ed2 rs2 cp2 : Nat) (pl2 : va_W), tLe t t2 ∧ rs2 ≤ rs + 0 ∧ (t2 a = (1, n)) ∧ Ok tC dz t2 ad ed2 cb up rs2 cp2 pl2 ∧ pA D tC (va_A pl sz) pl2 t9) (va_A pl sz)) 0 0 (va_A pl sz) := by
  refine Met.ofW (cc := cX2_init) (maxL := 5) (ret := none) (by decide) rfl ?_
  intro p e s m args below meth c s₁ B hml hv
  obtain ⟨rfl, hsz, hP, hK, hD0, hN, hE⟩ := hv
  have hx := B.exec
  have hb := B.bytes
  have hr := B.returns
  have hts := atoms_spec (ws := wsX2_init) B.pre
  have hown : s.vm.findClass RX2 = some m.cls := findClass_of_methodNamed B.named
  have hlocks := B.notSynchronized
  have hin : meth.name = "<init>" := (name_of_methodNamed B.named B.method).1
  subst hsz
  have hD := hD0.self (sz := s.heap.size)
  have hAm : ∀ q : Nat, xN s.heap.size q → va_A pl s.heap.size q := xN_A
  have hN0 : ∀ q : Nat, s.heap.size ≤ q → xN s.heap.size q := fun _ h => h
  have hE0 := eH_narrow hE hAm
  generalize va_A pl s.heap.size = A at hD hE hAm
  have hA : ∀ q : Nat, s.heap.size ≤ q → A q := fun q h => hAm q h
  have hS : va_S (xN s.heap.size) s.heap s.heap [] := va_S.rf
  obtain ⟨rs0, hrs0⟩ : ∃ z9, z9 = rs := ⟨_, rfl⟩
  obtain ⟨up0, hup0⟩ : ∃ z9, z9 = up := ⟨_, rfl⟩
  obtain ⟨cb0, hcb0⟩ : ∃ z9, z9 = cb := ⟨_, rfl⟩
  have hLe : tLe t t := tLe.rf
  have hRs : rs ≤ rs0 + 0 := by omega
  have hl := lv_entry ([.ref a, .ref f, .ref g, .int z, .int d]) (n := 5) (Nat.le_of_ble_eq_true rfl)
  rw [lg_entry_eq]
  generalize (lg_sl ([.ref a, .ref f, .ref g, .int z, .int d]) ++ List.replicate (5 - (lg_sl ([.ref a, .ref f, .ref g, .int z, .int d])).length) Slot.unset).toArray = ls at hl ⊢
  have hl : lv_has ls 5 [(0, .ref a), (1, .ref f), (2, .ref g), (3, .int z), (4, .int d)] := hl
  have w_0 := hts (.methodLink RX2 1 objectInit) (by decide +kernel)
  have w_1 := hts (.instanceMethod objectInit) (by decide +kernel)
  have w_2 := hts (.code objectInit ⟨#[0xb1]⟩ 1 none) (by decide +kernel)
  have w_3 := hts (.fieldLink RX2 7 "NoticeStations$Standing" "entries" "[I") (by decide +kernel)
  have w_4 := hts (.fieldLink RX2 13 "NoticeStations$Standing" "numbers" "[I") (by decide +kernel)
  have w_5 := hts (.fieldLink RX2 16 "NoticeStations$Standing" "size" "I") (by decide +kernel)
  have w_6 := hts (.fieldLink RX2 20 "NoticeStations$Standing" "named" "I") (by decide +kernel)
  refine lv_aload_n hx hb dX2_init_0 rfl (lv_at hl 0 rfl) ?_
  refine W.objInit hx hb hown w_0 w_1 w_2 rfl (by rw [hml]; exact hl.1) rfl dX2_init_1 (Nat.le_of_ble_eq_true rfl) (Nat.le_of_ble_eq_true rfl) ?_
  refine W.eq (g2 := F0 m 4 ls []) rfl ?_
  refine lv_aload_n hx hb dX2_init_4 rfl (lv_at hl 0 rfl) ?_
  refine lv_aload_n hx hb dX2_init_5 rfl (lv_at hl 1 rfl) ?_
  have hS := hS.mono hAm
  refine va_putF (D := D) (ci := 3) (v := .ref f) (ty := .array .int) (C := RX2) (T := TX2) (N := 4) hx hb hts in_X2_init_X2 tyX2 tyX2_ok nmX2 hown hK hP hD hS ka hka rfl 0 (by decide) w_3 (fun _ h9 => h9) rfl hin rfl (by decide +kernel) (by first | rfl | decide) (by first | rfl | decide) (Nat.le_of_ble_eq_true rfl) dX2_init_6 (fun H locs hP hD hS => ?_)
  have hO := hO.put0 (c1 := .inr (3, [.ref f, .null, .int 0, .int 0])) hka za
  obtain ⟨pl, hpl9⟩ : ∃ z9, z9 = pl.set ka (a, .inr (3, [.ref f, .null, .int 0, .int 0])) := ⟨_, rfl⟩
  have hk_1 := setP hka hpl9
  have hP : va_P D vwCl pl H := by rw [hpl9]; exact hP
  have hD : va_D A pl := by rw [hpl9]; exact hD
  have hO : Ok tC dz t ad ed cb up rs cp pl := by rw [hpl9]; exact hO
  refine lv_aload_n hx hb dX2_init_9 rfl (lv_at hl 0 rfl) ?_
  refine lv_aload_n hx hb dX2_init_10 rfl (lv_at hl 2 rfl) ?_
  refine va_putF (D := D) (ci := 3) (v := .ref g) (ty := .array .int) (C := RX2) (T := TX2) (N := 4) hx hb hts in_X2_init_X2 tyX2 tyX2_ok nmX2 hown hK hP hD hS ka hk_1 rfl 1 (by decide) w_4 (fun _ h9 => h9) rfl hin rfl (by decide +kernel) (by first | rfl | decide) (by first | rfl | decide) (Nat.le_of_ble_eq_true rfl) dX2_init_11 (fun H locs hP hD hS => ?_)
  have hO := hO.put0 (c1 := .inr (3, [.ref f, .ref g, .int 0, .int 0])) hk_1 za
  obtain ⟨pl, hpl9⟩ : ∃ z9, z9 = pl.set ka (a, .inr (3, [.ref f, .ref g, .int 0, .int 0])) := ⟨_, rfl⟩
  have hk_2 := setP hk_1 hpl9
  have hP : va_P D vwCl pl H := by rw [hpl9]; exact hP
  have hD : va_D A pl := by rw [hpl9]; exact hD
  have hO : Ok tC dz t ad ed cb up rs cp pl := by rw [hpl9]; exact hO
  refine lv_aload_n hx hb dX2_init_14 rfl (lv_at hl 0 rfl) ?_
  refine lv_iload_n hx hb dX2_init_15 rfl (lv_at hl 3 rfl) ?_
  refine va_putF (D := D) (ci := 3) (v := .int z) (ty := .int) (C := RX2) (T := TX2) (N := 4) hx hb hts in_X2_init_X2 tyX2 tyX2_ok nmX2 hown hK hP hD hS ka hk_2 rfl 2 (by decide) w_5 (fun _ h9 => h9) rfl hin rfl (by decide +kernel) (by first | rfl | decide) (by first | rfl | decide) (Nat.le_of_ble_eq_true rfl) dX2_init_16 (fun H locs hP hD hS => ?_)
  have hO := hO.put0 (c1 := .inr (3, [.ref f, .ref g, .int z, .int 0])) hk_2 za
  obtain ⟨pl, hpl9⟩ : ∃ z9, z9 = pl.set ka (a, .inr (3, [.ref f, .ref g, .int z, .int 0])) := ⟨_, rfl⟩
  have hk_3 := setP hk_2 hpl9
  have hP : va_P D vwCl pl H := by rw [hpl9]; exact hP
  have hD : va_D A pl := by rw [hpl9]; exact hD
  have hO : Ok tC dz t ad ed cb up rs cp pl := by rw [hpl9]; exact hO
  refine lv_aload_n hx hb dX2_init_19 rfl (lv_at hl 0 rfl) ?_
  refine lv_iload hx hb dX2_init_20 (lv_at hl 4 rfl) ?_
  refine va_putF (D := D) (ci := 3) (v := .int d) (ty := .int) (C := RX2) (T := TX2) (N := 4) hx hb hts in_X2_init_X2 tyX2 tyX2_ok nmX2 hown hK hP hD hS ka hk_3 rfl 3 (by decide) w_6 (fun _ h9 => h9) rfl hin rfl (by decide +kernel) (by first | rfl | decide) (by first | rfl | decide) (Nat.le_of_ble_eq_true rfl) dX2_init_22 (fun H locs hP hD hS => ?_)
  have hO := hO.put0 (c1 := .inr (3, [.ref f, .ref g, .int z, .int d])) hk_3 za
  obtain ⟨pl, hpl9⟩ : ∃ z9, z9 = pl.set ka (a, .inr (3, [.ref f, .ref g, .int z, .int d])) := ⟨_, rfl⟩
  have hk_4 := setP hk_3 hpl9
  have hP : va_P D vwCl pl H := by rw [hpl9]; exact hP
  have hD : va_D A pl := by rw [hpl9]; exact hD
  have hO : Ok tC dz t ad ed cb up rs cp pl := by rw [hpl9]; exact hO
  have hle9 := tUp_le (k := 1) (n := n) za
  have hO := hO.ty (k := 1) (n := n) hk_4 za (by decide) (cS.m1 ((tUp_le za).at hf (by decide)) ((tUp_le za).at hg (by decide)) hn)
  have hn9 : tUp t a 1 n a = (1, n) := tUp_at _ _ _ _
  obtain ⟨t, ht8⟩ : ∃ z9, z9 = tUp t a 1 n := ⟨_, rfl⟩
  rw [← ht8] at hO hle9 hn9
  have h_5 := hn9
  have hLe := hLe.trans hle9
  have h_6 := hle9.at hf (by decide)
  have h_7 := hle9.at hg (by decide)
  refine W.widen (k := 0) (n := 0) (by omega) (by omega) ?_
  exact W.vret hx hb hr (fun t9 ht hW => ⟨⟨(), rfl, trivial, ⟨t, ed, rs, cp, pl, hLe, by omega, h_5, hO, (by rw [ht]; exact hP), va_K.moved hW.alike hK, hD⟩⟩, hS.F ht⟩) hS.2.2 dX2_init_25 hlocks
set_option maxHeartbeats 4000000 in
set_option maxRecDepth 100000 in
theorem c_J7_copyOf_59c91 (l : Launch) (hlt : l.stackTraces = false) (D : va_G) (tC : Nat → ClassId) (dz sz : Nat) (pl : va_W) (t : Nat → Nat × Nat) (ad : Nat → Nat) (ed : Nat) (cb up : Nat → Int32) (rs cp : Nat) (hO : Ok tC dz t ad ed cb up rs cp pl) (a : Nat) (n : Nat) (ha : t a = (2, n)) (hn : n ≤ 15) : Met l yJ7_copyOf_59c91 wsJ7_copyOf_59c91 ({ frames := 1, cells := 1, slots := 16, locals := 60 }) (va_Pc [.ref a, .int (nI (n + 1))] (pB D tC dz pl sz)) (va_Qr (fun (_ : Unit) => True) (fun (_ : Unit) (r : Nat) t9 => ∃ (t2 : Nat → Nat × Nat) (ed2 rs2 cp2 : Nat) (pl2 : va_W), tLe t t2 ∧ rs2 ≤ rs + 0 ∧ (t2 r = (2, n + 1)) ∧ Ok tC dz t2 ad ed2 cb up rs2 cp2 pl2 ∧ pA D tC (va_A pl sz) pl2 t9) (va_A pl sz)) 1 16 (va_A pl sz) := by
  refine Met.ofW (cc := cJ7_copyOf_59c91) (maxL := 3) (ret := (some (.array .int))) (by decide) rfl ?_
  intro p e s m args below meth c s₁ B hml hv
  obtain ⟨rfl, hsz, hP, hK, hD0, hN, hE⟩ := hv
  have hx := B.exec
  have hb := B.bytes
  have hr := B.returns
  have hts := atoms_spec (ws := wsJ7_copyOf_59c91) B.pre
  have hown : s.vm.findClass RJ7 = some m.cls := findClass_of_methodNamed B.named
  have hlocks := B.notSynchronized
  subst hsz
  have hD := hD0.self (sz := s.heap.size)
  have hAm : ∀ q : Nat, xN s.heap.size q → va_A pl s.heap.size q := xN_A
  have hN0 : ∀ q : Nat, s.heap.size ≤ q → xN s.heap.size q := fun _ h => h
  have hE0 := eH_narrow hE hAm
  generalize va_A pl s.heap.size = A at hD hE hAm
  have hA : ∀ q : Nat, s.heap.size ≤ q → A q := fun q h => hAm q h
  have hS : va_S (xN s.heap.size) s.heap s.heap [] := va_S.rf
  obtain ⟨rs0, hrs0⟩ : ∃ z9, z9 = rs := ⟨_, rfl⟩
  obtain ⟨up0, hup0⟩ : ∃ z9, z9 = up := ⟨_, rfl⟩
  obtain ⟨cb0, hcb0⟩ : ∃ z9, z9 = cb := ⟨_, rfl⟩
  have hLe : tLe t t := tLe.rf
  have hRs : rs ≤ rs0 + 0 := by omega
  have hl := lv_entry ([.ref a, .int (nI (n + 1))]) (n := 3) (Nat.le_of_ble_eq_true rfl)
  rw [lg_entry_eq]
  generalize (lg_sl ([.ref a, .int (nI (n + 1))]) ++ List.replicate (3 - (lg_sl ([.ref a, .int (nI (n + 1))])).length) Slot.unset).toArray = ls at hl ⊢
  have hl : lv_has ls 3 [(0, .ref a), (1, .int (nI (n + 1)))] := hl
  have w_0 := hts (.arrayClass .int) (by decide +kernel)
  have w_1 := hts (.methodLink RJ7 304 Lib.Math.min.name) (by decide +kernel)
  have w_2 := hts (.static Lib.Math.min.name) (by decide +kernel)
  have w_3 := hts (.initialized "java/lang/Math") (by decide +kernel)
  have w_4 := hts (.code Lib.Math.min.name Lib.Math.min.code 2 (some .int)) (by decide +kernel)
  have w_5 := hts (.methodLink RJ7 150 arraycopyName) (by decide +kernel)
  have w_6 := hts (.native arraycopyName) (by decide +kernel)
  have w_7 := hts (.static arraycopyName) (by decide +kernel)
  have w_8 := hts (.initialized "java/lang/System") (by decide +kernel)
  refine lv_iload_n hx hb dJ7_copyOf_59c91_0 rfl (lv_at hl 1 rfl) ?_
  refine lv_aload_n hx hb dJ7_copyOf_59c91_1 rfl (lv_at hl 0 rfl) ?_
  obtain ⟨p_1, f_2, hp_1⟩ := hO.k2 ha
  refine va_alen (v := (nI n)) hx hb hK hP p_1 0 hp_1 rfl (by first | decide | rfl) dJ7_copyOf_59c91_2 ?_
  refine lv_icmp_ne (tgt := 14) hx hb dJ7_copyOf_59c91_3 (by decide) (fun _ => ?_) (fun hc => absurd hc (fun h9 => absurd ((nI_eq (by omega) (by omega)).mp h9) (by omega)))
  refine lv_iload_n hx hb dJ7_copyOf_59c91_14 rfl (lv_at hl 1 rfl) ?_
  have hS := hS.mono hAm
  refine x_newa (N' := (n + 1)) (ty := .int) (a0 := ((n + 1), .inl (fun _ => 0))) hx hb w_0 rfl hK hP hD hS hA (i := 0) rfl (fun cA => x_newI cA _) (nI_pos (by omega)) (nI_clamp (by omega)) (by show (n + 1) * 4 ≤ 536870912; omega) (Nat.le_of_ble_eq_true rfl) (by show 0 + _ ≤ 16; omega) dJ7_copyOf_59c91_15 (fun q_3 H hP hD hS => ?_)
  have zq_3 : (t q_3).1 = 0 := hO.new0 hD
  have hO := hO.more [(q_3, wI tC (n + 1) (fun _ => 0))]
  obtain ⟨pl, hpl9⟩ : ∃ z9, z9 = pl ++ [(q_3, wI tC (n + 1) (fun _ => 0))] := ⟨_, rfl⟩
  obtain ⟨kq_3, hkq_3⟩ := newP hpl9
  have hP : va_P D vwCl pl H := by rw [hpl9]; exact hP
  have hD : va_D A pl := by rw [hpl9]; exact hD
  have hO : Ok tC dz t ad ed cb up rs cp pl := by rw [hpl9]; exact hO
  refine W.widen (k := 1) (n := 16) (by omega) (by omega) ?_
  have hle9 := tUp_le (k := 2) (n := (n + 1)) zq_3
  have hO := hO.ty (k := 2) (n := (n + 1)) hkq_3 zq_3 (by decide) (cS.m2)
  have hn9 : tUp t q_3 2 (n + 1) q_3 = (2, (n + 1)) := tUp_at _ _ _ _
  obtain ⟨t, ht8⟩ : ∃ z9, z9 = tUp t q_3 2 (n + 1) := ⟨_, rfl⟩
  rw [← ht8] at hO hle9 hn9
  have h_4 := hn9
  have hLe := hLe.trans hle9
  have h_5 := hle9.at ha (by decide)
  refine lv_astore_n (lv' := [(2, .ref q_3), (0, .ref a), (1, .int (nI (n + 1)))]) hx hb dJ7_copyOf_59c91_17 rfl hl (by decide) rfl (fun ls hl => ?_)
  refine lv_aload_n hx hb dJ7_copyOf_59c91_18 rfl (lv_at hl 1 rfl) ?_
  refine lv_iconst (v := 0) hx hb dJ7_copyOf_59c91_19 (by decide) ?_
  refine lv_aload_n hx hb dJ7_copyOf_59c91_20 rfl (lv_at hl 0 rfl) ?_
  refine lv_iconst (v := 0) hx hb dJ7_copyOf_59c91_21 (by decide) ?_
  refine lv_aload_n hx hb dJ7_copyOf_59c91_22 rfl (lv_at hl 1 rfl) ?_
  obtain ⟨p_6, f_7, hp_6⟩ := hO.k2 h_5
  refine va_alen (v := (nI n)) hx hb hK hP p_6 0 hp_6 rfl (by first | decide | rfl) dJ7_copyOf_59c91_23 ?_
  refine lv_iload_n hx hb dJ7_copyOf_59c91_24 rfl (lv_at hl 2 rfl) ?_
  refine va_mmin hx hb (hml.trans hl.1.symm) hown w_1 w_2 w_3 w_4 (Nat.le_of_ble_eq_true rfl) (Nat.le_of_ble_eq_true rfl) (Nat.le_of_ble_eq_true rfl) (Nat.le_of_ble_eq_true rfl) dJ7_copyOf_59c91_25 ?_
  refine lv_topi (fun z_8 ez_8 => ?_)
  have fz_8 : z_8 = (nI n) := ez_8.trans (if_neg (nI_nlt (by omega) (by omega)))
  subst fz_8
  obtain ⟨p_9, f_10, hp_9⟩ := hO.k2 h_4
  refine va_copyi hx hb (hml.trans hl.1.symm) hown w_5 w_6 w_7 w_8 hK hP hD hS p_6 p_9 0 0 hp_6 hp_9 rfl rfl rfl (by decide) (by decide) (nI_pos (by omega)) (by rw [nI_clamp (by omega), show (0 : Int32).toNatClampNeg = 0 by decide]; omega) (by rw [nI_clamp (by omega), show (0 : Int32).toNatClampNeg = 0 by decide]; omega) (fun _ _ => rfl) (Nat.le_of_ble_eq_true rfl) (Nat.le_of_ble_eq_true rfl) dJ7_copyOf_59c91_28 (fun H locs hP hD hS => ?_)
  have hO := hO.p2 (f := va_cpy f_7 f_10 (0 : Int32).toNatClampNeg (0 : Int32).toNatClampNeg (nI n).toNatClampNeg) h_4 hp_9
  obtain ⟨pl, hpl9⟩ : ∃ z9, z9 = pl.set p_9 (q_3, wI tC (n + 1) (va_cpy f_7 f_10 (0 : Int32).toNatClampNeg (0 : Int32).toNatClampNeg (nI n).toNatClampNeg)) := ⟨_, rfl⟩
  have hk_11 := setP hp_9 hpl9
  have hP : va_P D vwCl pl H := by rw [hpl9]; exact hP
  have hD : va_D A pl := by rw [hpl9]; exact hD
  have hO : Ok tC dz t ad ed cb up rs cp pl := by rw [hpl9]; exact hO
  refine lv_aload_n hx hb dJ7_copyOf_59c91_31 rfl (lv_at hl 0 rfl) ?_
  refine W.widen (k := 1) (n := 16) (by omega) (by omega) ?_
  exact W.aret (v := .ref q_3) hx hb hr (Or.inr ⟨_, rfl⟩) (Or.inr ⟨_, rfl⟩) (fun t9 ht hW => ⟨⟨(), q_3, rfl, trivial, ⟨t, ed, rs, cp, pl, hLe, by omega, h_4, hO, (by rw [ht]; exact hP), va_K.moved hW.alike hK, hD⟩⟩, hS.F ht⟩) hS.2.2 dJ7_copyOf_59c91_32 hlocks
set_option maxHeartbeats 4000000 in
set_option maxRecDepth 100000 in
theorem c_X2_followedBy (l : Launch) (hlt : l.stackTraces = false) (D : va_G) (tC : Nat → ClassId) (dz sz : Nat) (pl : va_W) (t : Nat → Nat × Nat) (ad : Nat → Nat) (ed : Nat) (cb up : Nat → Int32) (rs cp : Nat) (hO : Ok tC dz t ad ed cb up rs cp pl) (a : Nat) (n : Nat) (en : Int32) (nu : Int32) (z : Int32) (d : Int32) (ha : t a = (1, n)) (hn : n ≤ 15) : Met l yX2_followedBy wsX2_followedBy ({ frames := 2, cells := 3, slots := 36, locals := 82 }) (va_Pc [.ref a, .int en, .int nu, .int z, .int d] (pB D tC dz pl sz)) (va_Qr (fun (_ : Unit) => True) (fun (_ : Unit) (r : Nat) t9 => ∃ (t2 : Nat → Nat × Nat) (ed2 rs2 cp2 : Nat) (pl2 : va_W), tLe t t2 ∧ rs2 ≤ rs + 0 ∧ ((t2 r).1 = 1) ∧ Ok tC dz t2 ad ed2 cb up rs2 cp2 pl2 ∧ pA D tC (va_A pl sz) pl2 t9) (va_A pl sz)) 3 36 (va_A pl sz) := by
  refine Met.ofW (cc := cX2_followedBy) (maxL := 8) (ret := (some (.object "NoticeStations$Standing"))) (by decide) rfl ?_
  intro p e s m args below meth c s₁ B hml hv
  obtain ⟨rfl, hsz, hP, hK, hD0, hN, hE⟩ := hv
  have hx := B.exec
  have hb := B.bytes
  have hr := B.returns
  have hts := atoms_spec (ws := wsX2_followedBy) B.pre
  have hown : s.vm.findClass RX2 = some m.cls := findClass_of_methodNamed B.named
  have hlocks := B.notSynchronized
  subst hsz
  have hD := hD0.self (sz := s.heap.size)
  have hAm : ∀ q : Nat, xN s.heap.size q → va_A pl s.heap.size q := xN_A
  have hN0 : ∀ q : Nat, s.heap.size ≤ q → xN s.heap.size q := fun _ h => h
  have hE0 := eH_narrow hE hAm
  generalize va_A pl s.heap.size = A at hD hE hAm
  have hA : ∀ q : Nat, s.heap.size ≤ q → A q := fun q h => hAm q h
  have hS : va_S (xN s.heap.size) s.heap s.heap [] := va_S.rf
  obtain ⟨rs0, hrs0⟩ : ∃ z9, z9 = rs := ⟨_, rfl⟩
  obtain ⟨up0, hup0⟩ : ∃ z9, z9 = up := ⟨_, rfl⟩
  obtain ⟨cb0, hcb0⟩ : ∃ z9, z9 = cb := ⟨_, rfl⟩
  have hLe : tLe t t := tLe.rf
  have hRs : rs ≤ rs0 + 0 := by omega
  have hl := lv_entry ([.ref a, .int en, .int nu, .int z, .int d]) (n := 8) (Nat.le_of_ble_eq_true rfl)
  rw [lg_entry_eq]
  generalize (lg_sl ([.ref a, .int en, .int nu, .int z, .int d]) ++ List.replicate (8 - (lg_sl ([.ref a, .int en, .int nu, .int z, .int d])).length) Slot.unset).toArray = ls at hl ⊢
  have hl : lv_has ls 8 [(0, .ref a), (1, .int en), (2, .int nu), (3, .int z), (4, .int d)] := hl
  have w_0 := hts (.fieldLink RX2 7 "NoticeStations$Standing" "entries" "[I") (by decide +kernel)
  have w_1 := hts (.fieldLink RX2 13 "NoticeStations$Standing" "numbers" "[I") (by decide +kernel)
  have w_2 := hts (.classLink RX2 8 RX2) (by decide +kernel)
  have w_3 := hts (.instantiable RX2 4) (by decide +kernel)
  have w_4 := hts (.initialized RX2) (by decide +kernel)
  have w_5 := hts (.methodLink RX2 43 yX2_init) (by decide +kernel)
  have w_6 := hts (.instanceMethod yX2_init) (by decide +kernel)
  refine lv_aload_n hx hb dX2_followedBy_0 rfl (lv_at hl 0 rfl) ?_
  obtain ⟨p_1, e_2, u_3, z_4, d_5, hp_1, h_6, h_7, h_8⟩ := hO.k1 ha
  refine va_calli (va_runV (As := []) (rest := []) ⟨hx, hb, hml, hown, hts⟩ (c_X2_length l hlt D tC dz s.heap.size pl t ad ed cb up rs cp hO a n ha) (cwV 0 hts gX2_followedBy_X2_length rfl rfl rfl (by decide +kernel) ⟨Nat.le_of_ble_eq_true rfl, Nat.le_of_ble_eq_true rfl⟩) ⟨pB_blind, va_recv hK hP (ci := 3) (q0 := p_1) rfl hp_1, pB_at hP hD hK hN hE (hS.mono hAm) (freeA hD (hS.mono hAm) hA)⟩ rfl rfl hl.1 rfl (lv_room (Nat.le_of_ble_eq_true rfl)) dX2_followedBy_1 ⟨Nat.le_of_ble_eq_true rfl, Nat.le_of_ble_eq_true rfl⟩) hS oldN (freeN hS hN0) (fun r_9 u t9 H1 locs ht hvm hw hB hz1 hk1 hS => ?_)
  have hw_10 := hw
  have hP := keepP hP hk1
  generalize H1 = H at hP hS ⊢
  subst hw_10
  refine lv_istore (lv' := [(5, .int (nI n)), (0, .ref a), (1, .int en), (2, .int nu), (3, .int z), (4, .int d)]) hx hb dX2_followedBy_4 hl (by decide) rfl (fun ls hl => ?_)
  refine lv_aload_n hx hb dX2_followedBy_6 rfl (lv_at hl 1 rfl) ?_
  refine va_get (D := D) (ci := 3) (v := .ref e_2) (C := RX2) (T := TX2) (N := 4) hx hb hts in_X2_followedBy_X2 hown hK hP p_1 hp_1 rfl 0 (by decide) w_0 (fun _ h9 => h9) rfl dX2_followedBy_7 ?_
  refine lv_iload hx hb dX2_followedBy_10 (lv_at hl 0 rfl) ?_
  refine lv_iconst (v := 1) hx hb dX2_followedBy_12 (by decide) ?_
  refine lv_iadd hx hb dX2_followedBy_13 ?_
  refine lv_topi (fun z_11 ez_11 => ?_)
  have fz_11 : z_11 = (nI (n + 1)) := ez_11.trans (nI_1 _)
  subst fz_11
  have hFA := (freeA hD (hS.mono hAm) hA)
  refine va_callr (va_runS (As := [.ref e_2, .int (nI (n + 1))]) (rest := []) ⟨hx, hb, hml, hown, hts⟩ (c_J7_copyOf_59c91 l hlt D tC dz H.size pl t ad ed cb up rs cp hO e_2 n h_6 (by omega)) (va_cwS 2 hts gX2_followedBy_J7_copyOf_59c91 rfl rfl rfl (by decide +kernel) ⟨Nat.le_of_ble_eq_true rfl, Nat.le_of_ble_eq_true rfl⟩) ⟨pB_blind, pB_at hP hD hK hN hE (hS.mono hAm) (freeA hD (hS.mono hAm) hA)⟩ rfl rfl hl.1 rfl (lv_room (Nat.le_of_ble_eq_true rfl)) dX2_followedBy_14 ⟨Nat.le_of_ble_eq_true rfl, Nat.le_of_ble_eq_true rfl⟩) (hS.mono hAm) (fun q _ h => hFA q h) hFA (fun u r_12 t9 H1 locs ht hvm hw hB hz1 hk1 hS => ?_)
  obtain ⟨t, ed, rs, cp, pl, hle9, hrs9, hx_14, hO, hP1, _, hD1⟩ := hB
  rw [ht] at hP1
  have hD : va_D A pl := hD1.weaken (fun _ _ _ h9 => hFA _ h9)
  have hP := hP1
  generalize H1 = H at hP hS ⊢
  have hRs : rs ≤ rs0 + 0 := by omega
  have hLe := hLe.trans hle9
  have h_15 := hle9.at ha (by decide)
  refine W.widen (k := 1) (n := 16) (by omega) (by omega) ?_
  refine lv_astore (lv' := [(6, .ref r_12), (5, .int (nI n)), (0, .ref a), (1, .int en), (2, .int nu), (3, .int z), (4, .int d)]) hx hb dX2_followedBy_17 hl (by decide) rfl (fun ls hl => ?_)
  refine lv_aload_n hx hb dX2_followedBy_19 rfl (lv_at hl 2 rfl) ?_
  obtain ⟨p_16, e_17, u_18, z_19, d_20, hp_16, h_21, h_22, h_23⟩ := hO.k1 h_15
  refine va_get (D := D) (ci := 3) (v := .ref u_18) (C := RX2) (T := TX2) (N := 4) hx hb hts in_X2_followedBy_X2 hown hK hP p_16 hp_16 rfl 1 (by decide) w_1 (fun _ h9 => h9) rfl dX2_followedBy_20 ?_
  refine lv_iload hx hb dX2_followedBy_23 (lv_at hl 1 rfl) ?_
  refine lv_iconst (v := 1) hx hb dX2_followedBy_25 (by decide) ?_
  refine lv_iadd hx hb dX2_followedBy_26 ?_
  refine lv_topi (fun z_24 ez_24 => ?_)
  have fz_24 : z_24 = (nI (n + 1)) := ez_24.trans (nI_1 _)
  subst fz_24
  have hFA := (freeA hD hS hA)
  refine va_callr (va_runS (As := [.ref u_18, .int (nI (n + 1))]) (rest := []) ⟨hx, hb, hml, hown, hts⟩ (c_J7_copyOf_59c91 l hlt D tC dz H.size pl t ad ed cb up rs cp hO u_18 n h_22 (by omega)) (va_cwS 2 hts gX2_followedBy_J7_copyOf_59c91 rfl rfl rfl (by decide +kernel) ⟨Nat.le_of_ble_eq_true rfl, Nat.le_of_ble_eq_true rfl⟩) ⟨pB_blind, pB_at hP hD hK hN hE hS (freeA hD hS hA)⟩ rfl rfl hl.1 rfl (lv_room (Nat.le_of_ble_eq_true rfl)) dX2_followedBy_27 ⟨Nat.le_of_ble_eq_true rfl, Nat.le_of_ble_eq_true rfl⟩) hS (fun q _ h => hFA q h) hFA (fun u r_25 t9 H1 locs ht hvm hw hB hz1 hk1 hS => ?_)
  obtain ⟨t, ed, rs, cp, pl, hle9, hrs9, hx_27, hO, hP1, _, hD1⟩ := hB
  rw [ht] at hP1
  have hD : va_D A pl := hD1.weaken (fun _ _ _ h9 => hFA _ h9)
  have hP := hP1
  generalize H1 = H at hP hS ⊢
  have hRs : rs ≤ rs0 + 0 := by omega
  have hLe := hLe.trans hle9
  have h_28 := hle9.at h_15 (by decide)
  have h_29 := hle9.at hx_14 (by decide)
  refine W.widen (k := 2) (n := 32) (by omega) (by omega) ?_
  refine lv_astore (lv' := [(7, .ref r_25), (6, .ref r_12), (5, .int (nI n)), (0, .ref a), (1, .int en), (2, .int nu), (3, .int z), (4, .int d)]) hx hb dX2_followedBy_30 hl (by decide) rfl (fun ls hl => ?_)
  refine lv_aload hx hb dX2_followedBy_32 (lv_at hl 1 rfl) ?_
  refine lv_iload hx hb dX2_followedBy_34 (lv_at hl 2 rfl) ?_
  refine lv_iload_n hx hb dX2_followedBy_36 rfl (lv_at hl 4 rfl) ?_
  obtain ⟨p_30, f_31, hp_30⟩ := hO.k2 h_29
  refine va_iast hx hb hK hP hD hS p_30 0 hp_30 rfl (vp_in_nI (by omega) (by omega)) dX2_followedBy_37 (fun H locs hP hD hS => ?_)
  have hO := hO.p2 (f := upd f_31 (nI n).toNatClampNeg en) h_29 hp_30
  obtain ⟨pl, hpl9⟩ : ∃ z9, z9 = pl.set p_30 (r_12, wI tC (n + 1) (upd f_31 (nI n).toNatClampNeg en)) := ⟨_, rfl⟩
  have hk_32 := setP hp_30 hpl9
  have hP : va_P D vwCl pl H := by rw [hpl9]; exact hP
  have hD : va_D A pl := by rw [hpl9]; exact hD
  have hO : Ok tC dz t ad ed cb up rs cp pl := by rw [hpl9]; exact hO
  refine lv_aload hx hb dX2_followedBy_38 (lv_at hl 0 rfl) ?_
  refine lv_iload hx hb dX2_followedBy_40 (lv_at hl 2 rfl) ?_
  refine lv_iload_n hx hb dX2_followedBy_42 rfl (lv_at hl 5 rfl) ?_
  obtain ⟨p_33, f_34, hp_33⟩ := hO.k2 hx_27
  refine va_iast hx hb hK hP hD hS p_33 0 hp_33 rfl (vp_in_nI (by omega) (by omega)) dX2_followedBy_43 (fun H locs hP hD hS => ?_)
  have hO := hO.p2 (f := upd f_34 (nI n).toNatClampNeg nu) hx_27 hp_33
  obtain ⟨pl, hpl9⟩ : ∃ z9, z9 = pl.set p_33 (r_25, wI tC (n + 1) (upd f_34 (nI n).toNatClampNeg nu)) := ⟨_, rfl⟩
  have hk_35 := setP hp_33 hpl9
  have hP : va_P D vwCl pl H := by rw [hpl9]; exact hP
  have hD : va_D A pl := by rw [hpl9]; exact hD
  have hO : Ok tC dz t ad ed cb up rs cp pl := by rw [hpl9]; exact hO
  refine va_new (ci := 3) (fs := [.null, .null, .int 0, .int 0]) (C := RX2) (T := TX2) (N := 4) hx hb hts in_X2_followedBy_X2 tyX2 tyX2_ok hown w_2 w_3 w_4 hK hP hD hS hA rfl (by decide +kernel) (Nat.le_of_ble_eq_true rfl) (Nat.le_of_ble_eq_true rfl) dX2_followedBy_44 (fun q_36 H hP hD hS => ?_)
  have zq_36 : (t q_36).1 = 0 := hO.new0 hD
  have hO := hO.more [(q_36, .inr (3, [.null, .null, .int 0, .int 0]))]
  obtain ⟨pl, hpl9⟩ : ∃ z9, z9 = pl ++ [(q_36, .inr (3, [.null, .null, .int 0, .int 0]))] := ⟨_, rfl⟩
  obtain ⟨kq_36, hkq_36⟩ := newP hpl9
  have hP : va_P D vwCl pl H := by rw [hpl9]; exact hP
  have hD : va_D A pl := by rw [hpl9]; exact hD
  have hO : Ok tC dz t ad ed cb up rs cp pl := by rw [hpl9]; exact hO
  refine W.widen (k := 3) (n := 36) (by omega) (by omega) ?_
  refine lv_dup hx hb dX2_followedBy_47 rfl ?_
  refine lv_aload hx hb dX2_followedBy_48 (lv_at hl 1 rfl) ?_
  refine lv_aload hx hb dX2_followedBy_50 (lv_at hl 0 rfl) ?_
  refine lv_iload_n hx hb dX2_followedBy_52 rfl (lv_at hl 6 rfl) ?_
  refine lv_iload hx hb dX2_followedBy_53 (lv_at hl 7 rfl) ?_
  have hFA := (freeA hD hS hA)
  refine va_callv (va_runI (As := [.ref r_12, .ref r_25, .int z, .int d]) (rest := [.ref q_36]) ⟨hx, hb, hml, hown, hts⟩ (c_X2_init l hlt D tC dz H.size pl t ad ed cb up rs cp hO q_36 kq_36 r_12 (n + 1) r_25 (n + 1) z d zq_36 hkq_36 h_29 hx_27 (by omega)) (cwI 4 hts gX2_followedBy_X2_init rfl rfl rfl w_4 w_5 w_6 rfl (by decide +kernel) ⟨Nat.le_of_ble_eq_true rfl, Nat.le_of_ble_eq_true rfl⟩) ⟨pB_blind, pB_at hP hD hK hN hE hS (freeA hD hS hA)⟩ rfl rfl hl.1 rfl (lv_room (Nat.le_of_ble_eq_true rfl)) dX2_followedBy_55 ⟨Nat.le_of_ble_eq_true rfl, Nat.le_of_ble_eq_true rfl⟩) hS (fun q _ h => hFA q h) hFA (fun u t9 H1 locs ht hvm hw hB hz1 hk1 hS => ?_)
  have hw_38 := hw
  obtain ⟨t, ed, rs, cp, pl, hle9, hrs9, hx_39, hO, hP1, _, hD1⟩ := hB
  rw [ht] at hP1
  have hD : va_D A pl := hD1.weaken (fun _ _ _ h9 => hFA _ h9)
  have hP := hP1
  generalize H1 = H at hP hS ⊢
  have hRs : rs ≤ rs0 + 0 := by omega
  have hLe := hLe.trans hle9
  have h_40 := hle9.at h_28 (by decide)
  have h_41 := hle9.at h_29 (by decide)
  have h_42 := hle9.at hx_27 (by decide)
  refine W.widen (k := 3) (n := 36) (by omega) (by omega) ?_
  exact W.aret (v := .ref q_36) hx hb hr (Or.inl ⟨_, rfl⟩) (Or.inr ⟨_, rfl⟩) (fun t9 ht hW => ⟨⟨(), q_36, rfl, trivial, ⟨t, ed, rs, cp, pl, hLe, by omega, (tk1 hx_39), hO, (by rw [ht]; exact hP), va_K.moved hW.alike hK, hD⟩⟩, hS.F ht⟩) hS.2.2 dX2_followedBy_58 hlocks
set_option maxHeartbeats 4000000 in
set_option maxRecDepth 100000 in
theorem c_X1_prepareFrom (l : Launch) (hlt : l.stackTraces = false) (D : va_G) (tC : Nat → ClassId) (dz sz : Nat) (pl : va_W) (t : Nat → Nat × Nat) (ad : Nat → Nat) (ed : Nat) (cb up : Nat → Int32) (rs cp : Nat) (hO : Ok tC dz t ad ed cb up rs cp pl) (a : Nat) (f : Nat) (n : Nat) (i : Nat) (ha : (t a).1 = 4) (hf : t f = (1, n)) (hi : i < 5) (hn : n ≤ 15) : Met l yX1_prepareFrom wsX1_prepareFrom ({ frames := 3, cells := 3, slots := 36, locals := 109 }) (va_Pc [.ref a, .ref f, .int (nI i)] (pB D tC dz pl sz)) (va_Qv (fun (_ : Unit) => True) (fun (_ : Unit) t9 => ∃ (t2 : Nat → Nat × Nat) (ed2 rs2 cp2 : Nat) (pl2 : va_W), tLe t t2 ∧ rs2 ≤ rs + 0 ∧ Ok tC dz t2 ad ed2 cb up rs2 cp2 pl2 ∧ pA D tC (va_A pl sz) pl2 t9) (va_A pl sz)) 3 36 (va_A pl sz) := by
  refine Met.ofW (cc := cX1_prepareFrom) (maxL := 3) (ret := none) (by decide) rfl ?_
  intro p e s m args below meth c s₁ B hml hv
  obtain ⟨rfl, hsz, hP, hK, hD0, hN, hE⟩ := hv
  have hx := B.exec
  have hb := B.bytes
  have hr := B.returns
  have hts := atoms_spec (ws := wsX1_prepareFrom) B.pre
  have hown : s.vm.findClass RX1 = some m.cls := findClass_of_methodNamed B.named
  have hlocks := B.notSynchronized
  subst hsz
  have hD := hD0.self (sz := s.heap.size)
  have hAm : ∀ q : Nat, xN s.heap.size q → va_A pl s.heap.size q := xN_A
  have hN0 : ∀ q : Nat, s.heap.size ≤ q → xN s.heap.size q := fun _ h => h
  have hE0 := eH_narrow hE hAm
  generalize va_A pl s.heap.size = A at hD hE hAm
  have hA : ∀ q : Nat, s.heap.size ≤ q → A q := fun q h => hAm q h
  have hS : va_S (xN s.heap.size) s.heap s.heap [] := va_S.rf
  obtain ⟨rs0, hrs0⟩ : ∃ z9, z9 = rs := ⟨_, rfl⟩
  obtain ⟨up0, hup0⟩ : ∃ z9, z9 = up := ⟨_, rfl⟩
  obtain ⟨cb0, hcb0⟩ : ∃ z9, z9 = cb := ⟨_, rfl⟩
  have hLe : tLe t t := tLe.rf
  have hRs : rs ≤ rs0 + 0 := by omega
  have hl := lv_entry ([.ref a, .ref f, .int (nI i)]) (n := 3) (Nat.le_of_ble_eq_true rfl)
  rw [lg_entry_eq]
  generalize (lg_sl ([.ref a, .ref f, .int (nI i)]) ++ List.replicate (3 - (lg_sl ([.ref a, .ref f, .int (nI i)])).length) Slot.unset).toArray = ls at hl ⊢
  have hl : lv_has ls 3 [(0, .ref a), (1, .ref f), (2, .int (nI i))] := hl
  have w_0 := hts (.fieldLink RX1 29 "NoticeStations$OpenWrite" "entry" "I") (by decide +kernel)
  have w_1 := hts (.fieldLink RX1 25 "NoticeStations$OpenWrite" "number" "I") (by decide +kernel)
  have w_2 := hts (.initialized RX2) (by decide +kernel)
  have w_3 := hts (.instanceMethod yX2_followedBy) (by decide +kernel)
  have w_4 := hts (.selects RX2 yX2_followedBy yX2_followedBy) (by decide +kernel)
  have w_5 := hts (.fieldLink RX1 21 "NoticeStations$OpenWrite" "next" "LNoticeStations$Standing;") (by decide +kernel)
  have w_6 := hts (.fieldLink RX1 17 "NoticeStations$OpenWrite" "prepared" "[Z") (by decide +kernel)
  refine lv_aload_n hx hb dX1_prepareFrom_0 rfl (lv_at hl 0 rfl) ?_
  refine lv_aload_n hx hb dX1_prepareFrom_1 rfl (lv_at hl 1 rfl) ?_
  refine lv_aload_n hx hb dX1_prepareFrom_2 rfl (lv_at hl 0 rfl) ?_
  obtain ⟨p_1, nu_2, en_3, g_4, b_5, o_6, hp_1, h_7, h_8, h_9⟩ := hO.k4 ha
  refine va_get (D := D) (ci := 2) (v := .int en_3) (C := RX1) (T := TX1) (N := 5) hx hb hts in_X1_prepareFrom_X1 hown hK hP p_1 hp_1 rfl 1 (by decide) w_0 (fun _ h9 => h9) rfl dX1_prepareFrom_3 ?_
  refine lv_aload_n hx hb dX1_prepareFrom_6 rfl (lv_at hl 0 rfl) ?_
  refine va_get (D := D) (ci := 2) (v := .int nu_2) (C := RX1) (T := TX1) (N := 5) hx hb hts in_X1_prepareFrom_X1 hown hK hP p_1 hp_1 rfl 0 (by decide) w_1 (fun _ h9 => h9) rfl dX1_prepareFrom_7 ?_
  refine lv_aload_n hx hb dX1_prepareFrom_10 rfl (lv_at hl 0 rfl) ?_
  refine va_calli (va_runV (As := []) (rest := [.int nu_2, .int en_3, .ref f, .ref a]) ⟨hx, hb, hml, hown, hts⟩ (c_X1_groupSize l hlt D tC dz s.heap.size pl t ad ed cb up rs cp hO a ha) (cwV 0 hts gX1_prepareFrom_X1_groupSize rfl rfl rfl (by decide +kernel) ⟨Nat.le_of_ble_eq_true rfl, Nat.le_of_ble_eq_true rfl⟩) ⟨pB_blind, va_recv hK hP (ci := 2) (q0 := p_1) rfl hp_1, pB_at hP hD hK hN hE (hS.mono hAm) (freeA hD (hS.mono hAm) hA)⟩ rfl rfl hl.1 rfl (lv_room (Nat.le_of_ble_eq_true rfl)) dX1_prepareFrom_11 ⟨Nat.le_of_ble_eq_true rfl, Nat.le_of_ble_eq_true rfl⟩) hS oldN (freeN hS hN0) (fun r_10 u t9 H1 locs ht hvm hw hB hz1 hk1 hS => ?_)
  have hw_11 := hw
  have hP := keepP hP hk1
  generalize H1 = H at hP hS ⊢
  refine lv_aload_n hx hb dX1_prepareFrom_14 rfl (lv_at hl 0 rfl) ?_
  refine va_calli (va_runV (As := []) (rest := [.int r_10, .int nu_2, .int en_3, .ref f, .ref a]) ⟨hx, hb, hml, hown, hts⟩ (c_X1_leastOfGroup l hlt D tC dz H.size pl t ad ed cb up rs cp hO a ha) (cwV 0 hts gX1_prepareFrom_X1_leastOfGroup rfl rfl rfl (by decide +kernel) ⟨Nat.le_of_ble_eq_true rfl, Nat.le_of_ble_eq_true rfl⟩) ⟨pB_blind, va_recv hK hP (ci := 2) (q0 := p_1) rfl hp_1, pB_at hP hD hK hN hE (hS.mono hAm) (freeA hD (hS.mono hAm) hA)⟩ rfl rfl hl.1 rfl (lv_room (Nat.le_of_ble_eq_true rfl)) dX1_prepareFrom_15 ⟨Nat.le_of_ble_eq_true rfl, Nat.le_of_ble_eq_true rfl⟩) hS oldN (freeN hS hN0) (fun r_12 u t9 H1 locs ht hvm hw hB hz1 hk1 hS => ?_)
  have hw_13 := hw
  have hP := keepP hP hk1
  generalize H1 = H at hP hS ⊢
  obtain ⟨p_14, e_15, u_16, z_17, d_18, hp_14, h_19, h_20, h_21⟩ := hO.k1 hf
  have hFA := (freeA hD (hS.mono hAm) hA)
  refine va_callr (va_runVN (As := [.int en_3, .int nu_2, .int r_10, .int r_12]) (rest := [.ref a]) ⟨hx, hb, hml, hown, hts⟩ (c_X2_followedBy l hlt D tC dz H.size pl t ad ed cb up rs cp hO f n en_3 nu_2 r_10 r_12 hf (by omega)) ⟨(va_cnB (host := "NoticeStations") 4 hts gX1_prepareFrom_X2_followedBy_n50 rfl rfl rfl (hN.1 (.methodLinkNest "NoticeStations$OpenWrite" 50 ⟨"NoticeStations$Standing", "followedBy", "(IIII)LNoticeStations$Standing;"⟩ "NoticeStations") (by decide +kernel)) w_2 (by decide +kernel) ⟨Nat.le_of_ble_eq_true rfl, Nat.le_of_ble_eq_true rfl⟩), w_3, w_4⟩ ⟨pB_blind, va_recv hK hP (ci := 3) (q0 := p_14) rfl hp_14, pB_at hP hD hK hN hE (hS.mono hAm) (freeA hD (hS.mono hAm) hA)⟩ rfl rfl hl.1 rfl (lv_room (Nat.le_of_ble_eq_true rfl)) dX1_prepareFrom_18 ⟨Nat.le_of_ble_eq_true rfl, Nat.le_of_ble_eq_true rfl⟩) (hS.mono hAm) (fun q _ h => hFA q h) hFA (fun u r_22 t9 H1 locs ht hvm hw hB hz1 hk1 hS => ?_)
  obtain ⟨t, ed, rs, cp, pl, hle9, hrs9, hx_24, hO, hP1, _, hD1⟩ := hB
  rw [ht] at hP1
  have hD : va_D A pl := hD1.weaken (fun _ _ _ h9 => hFA _ h9)
  have hP := hP1
  generalize H1 = H at hP hS ⊢
  have hRs : rs ≤ rs0 + 0 := by omega
  have hLe := hLe.trans hle9
  have h_25 := hle9.k ha (by decide)
  have h_26 := hle9.at hf (by decide)
  refine W.widen (k := 3) (n := 36) (by omega) (by omega) ?_
  obtain ⟨p_27, nu_28, en_29, g_30, b_31, o_32, hp_27, h_33, h_34, h_35⟩ := hO.k4 h_25
  refine va_put (D := D) (ci := 2) (v := .ref r_22) (ty := .object "NoticeStations$Standing") (C := RX1) (T := TX1) (N := 5) hx hb hts in_X1_prepareFrom_X1 tyX1 tyX1_ok nmX1 hown hK hP hD hS p_27 hp_27 rfl 4 (by decide) w_5 (fun _ h9 => h9) rfl (by decide +kernel) (by first | rfl | decide) (by first | rfl | decide) (Nat.le_of_ble_eq_true rfl) dX1_prepareFrom_21 (fun H locs hP hD hS => ?_)
  have hO := hO.p4 h_25 hp_27 h_33 h_34 (isK.so hx_24) (nu := nu_28) (en := en_29) (o := (some r_22))
  obtain ⟨pl, hpl9⟩ : ∃ z9, z9 = pl.set p_27 (a, .inr (2, [.int nu_28, .int en_29, .ref g_30, .ref b_31, .ref r_22])) := ⟨_, rfl⟩
  have hk_36 := setP hp_27 hpl9
  have hP : va_P D vwCl pl H := by rw [hpl9]; exact hP
  have hD : va_D A pl := by rw [hpl9]; exact hD
  have hO : Ok tC dz t ad ed cb up rs cp pl := by rw [hpl9]; exact hO
  refine lv_aload_n hx hb dX1_prepareFrom_24 rfl (lv_at hl 0 rfl) ?_
  refine va_get (D := D) (ci := 2) (v := .ref b_31) (C := RX1) (T := TX1) (N := 5) hx hb hts in_X1_prepareFrom_X1 hown hK hP p_27 hk_36 rfl 3 (by decide) w_6 (fun _ h9 => h9) rfl dX1_prepareFrom_25 ?_
  refine lv_iload_n hx hb dX1_prepareFrom_28 rfl (lv_at hl 2 rfl) ?_
  refine lv_iconst (v := 1) hx hb dX1_prepareFrom_29 (by decide) ?_
  obtain ⟨p_37, f_38, hp_37⟩ := hO.k6 h_34
  refine va_zast hx hb hK hP hD hS p_37 1 hp_37 rfl (in5 hi) dX1_prepareFrom_30 (fun H locs hP hD hS => ?_)
  have hO := hO.p6 h_34 hp_37 (f := upd f_38 (nI i).toNatClampNeg 1)
  obtain ⟨pl, hpl9⟩ : ∃ z9, z9 = pl.set p_37 (b_31, wZ tC 5 (upd f_38 (nI i).toNatClampNeg 1)) := ⟨_, rfl⟩
  have hk_39 := setP hp_37 hpl9
  have hP : va_P D vwCl pl H := by rw [hpl9]; exact hP
  have hD : va_D A pl := by rw [hpl9]; exact hD
  have hO : Ok tC dz t ad ed cb up rs cp pl := by rw [hpl9]; exact hO
  refine W.widen (k := 3) (n := 36) (by omega) (by omega) ?_
  exact W.vret hx hb hr (fun t9 ht hW => ⟨⟨(), rfl, trivial, ⟨t, ed, rs, cp, pl, hLe, by omega, hO, (by rw [ht]; exact hP), va_K.moved hW.alike hK, hD⟩⟩, hS.F ht⟩) hS.2.2 dX1_prepareFrom_31 hlocks
